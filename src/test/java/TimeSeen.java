import java.util.ArrayList;
import java.util.List;

/** All that is told of a machine now, in one list, so that two can be compared. */
final class TimeSeen {
    private TimeSeen() {
    }

    static List<Long> of(TimeMachine x) {
        List<Long> all = new ArrayList<>();
        for (int what : new int[] {0, 2, 4, 6, 7, 8, 9, 10, 11, 12, 13, 14}) {
            all.add(x.count(what));
        }
        for (int p = 0; p < 6; p++) {
            for (int r = 0; r <= 32; r++) {
                all.add((long) x.register(p, r));
            }
            for (int what = 0; what <= 7; what++) {
                all.add((long) x.process(p, what));
            }
            for (int a = 1024; a < 1100; a++) {
                all.add((long) x.peek(p, a));
                all.add((long) x.wrote(p, a));
            }
            for (int d = 0; d < 6; d++) {
                for (int what = 0; what <= 4; what++) {
                    all.add((long) x.descriptor(p, d, what));
                }
                all.add((long) x.held(p, d, 0));
                all.add((long) x.held(p, d, 2));
            }
        }
        for (int k = 0; k < 20; k++) {
            all.add((long) x.shown(k));
        }
        return all;
    }
}
