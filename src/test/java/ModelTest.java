import java.nio.charset.StandardCharsets;
import java.util.Arrays;
import java.util.function.LongSupplier;

/**
 * The same calls, made by chance, to the class and to a model that was written from the document alone. The first and
 * the last seed can be given; what was called is printed where an answer differs.
 */
public final class ModelTest {
    private static final long ARGUMENT = Long.MIN_VALUE + 1;
    private static final long STATE = Long.MIN_VALUE + 2;
    private static final Checks c = new Checks();

    private final Chance chance;
    private final ModelTexts texts;
    private final ModelCalls programs;
    private final ModelInputs inputs;
    private final StringBuilder story = new StringBuilder();
    private final TimeMachine x = new TimeMachine();
    private final Model m = new Model();
    private boolean differs;

    private ModelTest(long seed) {
        chance = new Chance(seed);
        texts = new ModelTexts(chance);
        programs = new ModelCalls(chance);
        inputs = new ModelInputs(chance);
    }

    public static void main(String[] args) {
        int from = args.length > 0 ? Integer.parseInt(args[0]) : 1;
        int to = args.length > 1 ? Integer.parseInt(args[1]) : 1500;
        // A few stories are enough to see what is wrong.
        int left = 3;
        for (int seed = from; seed <= to && left > 0; seed++) {
            c.about("seed " + seed);
            ModelTest it = new ModelTest(seed);
            it.calls(seed);
            if (it.differs) {
                System.out.println("seed " + seed + ":\n" + it.story);
                left--;
            }
        }
        c.finish();
    }

    private void calls(int seed) {
        if (seed % 200 == 0) {
            longRun();
        } else if (seed % 50 == 0) {
            manyEvents();
        } else if (seed % 5 == 0) {
            steps();
        } else {
            for (int i = 0; i < 40 && !differs; i++) {
                change();
                seen();
            }
        }
        if (!differs) {
            allSeen();
        }
    }

    // ---- both

    private static long answer(LongSupplier call) {
        try {
            return call.getAsLong();
        } catch (IllegalArgumentException e) {
            return ARGUMENT;
        } catch (IllegalStateException e) {
            return STATE;
        }
    }

    private void same(String what, LongSupplier one, LongSupplier other) {
        long got = answer(one);
        long due = answer(other);
        c.same(what, got, due);
        differs = differs || got != due;
    }

    /** A call that may change something is told, too. */
    private void does(String what, LongSupplier one, LongSupplier other) {
        story.append(what).append('\n');
        same(what, one, other);
    }

    private static LongSupplier nothing(Runnable call) {
        return () -> {
            call.run();
            return 0;
        };
    }

    private void feed(byte[] bytes) {
        int first = bytes.length % 20;
        // The part that is less than twenty bytes comes first.
        int from = first == 0 ? 0 : first - 20;
        for (int i = from; i < bytes.length; i += 20) {
            byte[] twenty = Arrays.copyOfRange(bytes, Math.max(i, 0), Math.max(i, 0) + 20);
            int[] five = new int[5];
            for (int k = 0; k < 20; k++) {
                five[k / 4] = five[k / 4] << 8 | twenty[k] & 255;
            }
            same("feed", () -> x.feed(five[0], five[1], five[2], five[3], five[4]),
                    () -> m.feed(five[0], five[1], five[2], five[3], five[4]));
            if (i < 0) {
                same("end", () -> x.end(first), () -> m.end(first));
            }
        }
    }

    private void feed(String text) {
        story.append("feed:\n").append(text).append("\n--\n");
        feed(text.getBytes(StandardCharsets.ISO_8859_1));
    }

    private void assemble(int p) {
        does("assemble(" + p + ")", () -> x.assemble(p), () -> m.assemble(p));
    }

    private void boot(int p) {
        does("boot(" + p + ")", nothing(() -> x.boot(p)), nothing(() -> m.boot(p)));
    }

    private void run(int n) {
        does("run(" + n + ")", () -> x.run(n), () -> m.run(n));
        same("reason()", x::reason, m::reason);
    }

    private void go(int to) {
        does("go(" + to + ")", nothing(() -> x.go(to)), nothing(() -> m.go(to)));
    }

    private void cut() {
        does("cut()", x::cut, m::cut);
    }

    private void watch(int k) {
        does("watch(" + k + ")", () -> x.watch(k), () -> m.watch(k));
    }

    private void backTo(int k) {
        does("backTo(" + k + ")", () -> x.backTo(k), () -> m.backTo(k));
    }

    private void replay(byte[] log, int p) {
        story.append("feed: ").append(Arrays.toString(log)).append('\n');
        feed(log);
        does("replay(" + p + ")", () -> x.replay(p), () -> m.replay(p));
    }

    private void outside(int kind, long a, int b) {
        does("outside(" + kind + ", " + a + ", " + b + ")", () -> x.outside(kind, a, b), () -> m.outside(kind, a, b));
    }

    private byte[] packed() {
        same("pack()", x::pack, m::pack);
        byte[] log = new byte[m.pack()];
        for (int k = 0; k < log.length; k++) {
            log[k] = (byte) x.logByte(k);
            int at = k;
            same("logByte(" + k + ")", () -> x.logByte(at), () -> m.logByte(at));
        }
        return log;
    }

    // ---- any calls

    private void change() {
        switch (chance.below(22)) {
            case 0:
            case 1:
                newProgram();
                break;
            case 2:
                if (chance.once(3)) {
                    boot(chance.about(4));
                }
                break;
            case 3:
            case 4:
                anyReplay();
                break;
            case 5:
            case 6:
            case 7:
            case 8:
            case 9:
                for (int n = chance.below(6); n >= 0; n--) {
                    anyEvent(chance.once(40) ? chance.about(6) : chance.below(5));
                }
                break;
            case 10:
            case 11:
            case 12:
            case 13:
            case 14:
                int n = chance.once(5) ? chance.about(3500) : chance.about(150);
                run(n > 3500 && n <= 60000 ? 3500 : n);
                break;
            case 15:
            case 16:
                go(chance.below((int) x.count(1) + 1) + (chance.once(10) ? chance.from(-1, 1) : 0));
                break;
            case 17:
                if (chance.once(2)) {
                    cut();
                }
                break;
            case 18:
            case 19:
                feed(inputs.condition());
                watch(chance.once(20) ? chance.about(8) : chance.below(8));
                useTape();
                break;
            case 20:
                int k = chance.about(8);
                does("drop(" + k + ")", () -> x.drop(k) ? 1 : 0, () -> m.drop(k) ? 1 : 0);
                break;
            default:
                backTo(chance.below(9));
                break;
        }
    }

    /** A call that throws leaves the tape. */
    private void useTape() {
        if (m.count(15) > 0) {
            watch(1);
        }
    }

    private String source() {
        switch (chance.below(8)) {
            case 0:
                return texts.tokens();
            case 1:
            case 2:
                return texts.statements();
            case 3:
                return chance.once(2) ? texts.straight() : texts.names();
            default:
                return programs.program();
        }
    }

    private void newProgram() {
        feed(source());
        int p = chance.once(30) ? chance.about(4) : chance.below(4);
        assemble(p);
        useTape();
        for (int q = 0; q < 4; q++) {
            programSeen(q);
        }
        if (m.count(0) == 0 && m.count(3) == 0 && m.program(p, 0) >= 0) {
            boot(p);
        }
    }

    private void anyReplay() {
        byte[] log = chance.once(3) ? inputs.log() : packed();
        if (chance.once(2) && log.length > 0) {
            log[chance.below(log.length)] = (byte) (chance.once(2) ? chance.below(20) : chance.any());
        } else if (chance.once(4)) {
            log = Arrays.copyOf(log, Math.max(0, log.length + chance.from(-2, 1)));
        }
        replay(log, chance.once(20) ? chance.about(4) : chance.below(4));
        useTape();
    }

    private void anyEvent(int kind) {
        long far = chance.once(4) ? chance.anyLong() : chance.once(20) ? 1L << 40 : chance.below(60);
        long a = kind == 0 || kind == 2 ? chance.about(chance.once(3) ? 15 : 3) : kind == 1 ? letters() : far;
        int b = kind == 2 ? chance.about(chance.once(3) ? 32 : 15) : chance.about(9);
        for (int n = chance.once(4) ? 2 : 1; n > 0; n--) {
            outside(kind, a, b);
        }
    }

    private long letters() {
        long v = 0;
        for (int i = 0; i < 8; i++) {
            v = v << 8 | (chance.once(6) ? 4 : 'a' + chance.below(4));
        }
        return v;
    }

    // ---- calls with an aim

    /** Short programs with instructions of any bits. */
    private void steps() {
        for (int i = 0; i < 30 && !differs; i++) {
            feed(texts.steps());
            assemble(1);
            c.same("the program has its labels", x.program(1, 3), 3);
            boot(1);
            run(chance.from(85, 90));
            seen();
            for (int a = 2040; a <= 2050; a++) {
                textSeen(0, a);
            }
        }
    }

    /** As many events as may be, many of them like the one before, then all of them from the log. */
    private void manyEvents() {
        feed(ModelCalls.LOOP);
        assemble(0);
        boot(0);
        int kind = 3;
        long a = 5;
        int b = 1;
        for (int i = 0; i < 6000 && !differs; i++) {
            if (chance.once(4)) {
                kind = chance.of(0, 1, 1, 3, 4);
                a = kind == 0 ? chance.below(3) : kind == 1 && chance.once(5) ? letters() : 300 + chance.below(9);
                b = chance.from(1, 3);
            }
            outside(kind, a, b);
            if (chance.once(3)) {
                run(chance.once(3) ? chance.below(10) : 4);
            }
        }
        c.same("all events there may be", x.count(3), 2048);
        seen();
        replay(packed(), 0);
        run(20000);
        seen();
        go((int) x.count(1) / 2);
        cut();
        seen();
    }

    /** A run to the last count there is, with events, and ways back and on again. */
    private void longRun() {
        feed(ModelCalls.LOOP);
        assemble(0);
        boot(0);
        for (int i = 0; i < 50; i++) {
            // No signals: they would end the processes.
            anyEvent(chance.of(0, 1, 3, 4));
            run(chance.from(1, 2400));
        }
        run(60000);
        c.same("the run comes to the last count", x.reason(), 4);
        String[] conditions = {"count % 7919 == 3", "changed([1024]) && count < " + chance.below(50000), "old(pid) > pid"};
        for (int k = 0; k < 3; k++) {
            feed(conditions[k]);
            watch(k);
        }
        for (int i = 0; i < 12 && !differs; i++) {
            go(chance.below((int) x.count(1) + 1));
            seen();
            backTo(chance.below(3));
            seen();
            run(chance.below(3000));
            seen();
            if (i % 4 == 3) {
                cut();
                anyEvent(0);
                run(5000);
            }
        }
    }

    // ---- what is seen

    private void programSeen(int p) {
        for (int i = -1; i <= 5; i++) {
            int what = i;
            same("program(" + p + ", " + what + ")", () -> x.program(p, what), () -> m.program(p, what));
        }
        int size = Math.max(0, m.program(p, 2));
        for (int i = -1; i <= Math.min(size, 3000); i++) {
            int k = i;
            same("image(" + p + ", " + k + ")", () -> x.image(p, k), () -> m.image(p, k));
            same("line(" + p + ", " + k + ")", () -> x.line(p, k), () -> m.line(p, k));
        }
        for (int i = -1; i <= Math.min(40, m.program(p, 3)); i++) {
            int k = i;
            same("label(" + p + ", " + k + ")", () -> x.label(p, k), () -> m.label(p, k));
        }
        for (int i = 0; i < 10; i++) {
            int a = chance.about(size + 10);
            same("before(" + p + ", " + a + ")", () -> x.before(p, a), () -> m.before(p, a));
        }
    }

    /** Some of all that is to be seen. */
    private void seen() {
        for (int i = -1; i <= 17; i++) {
            int what = i;
            same("count(" + what + ")", () -> x.count(what), () -> m.count(what));
        }
        int current = Math.max(0, (int) m.count(2));
        processSeen(current);
        processSeen(chance.about(16));
        textSeen(current, m.register(current, 32));
        int k = chance.below(9);
        same("value(" + k + ")", () -> x.value(k), () -> m.value(k));
        for (int i = 0; i < 6; i++) {
            int e = chance.about((int) m.count(3));
            int what = chance.about(4);
            int s = chance.about(60);
            same("event(" + e + ", " + what + ")", () -> x.event(e, what), () -> m.event(e, what));
            same("shown(" + s + ")", () -> x.shown(s), () -> m.shown(s));
            same("logByte(" + s + ")", () -> x.logByte(s), () -> m.logByte(s));
        }
    }

    private void textSeen(int p, int address) {
        same("the text at " + address, () -> Checks.text(x, p, address).hashCode(), () -> m.text(p, address).hashCode());
    }

    private void processSeen(int p) {
        for (int i = -1; i <= 8; i++) {
            int what = i;
            same("process(" + p + ", " + what + ")", () -> x.process(p, what), () -> m.process(p, what));
        }
        for (int i = -1; i <= 33; i++) {
            int r = i;
            same("register(" + p + ", " + r + ")", () -> x.register(p, r), () -> m.register(p, r));
        }
        for (int i = 0; i < 20; i++) {
            int d = chance.about(16);
            int what = chance.about(5);
            int b = chance.about(12);
            int a = chance.once(3) ? chance.about(70000) : 1024 * chance.from(1, 4) + chance.about(100);
            String at = "(" + p + ", " + d + ", ";
            same("descriptor" + at + what + ")", () -> x.descriptor(p, d, what), () -> m.descriptor(p, d, what));
            same("held" + at + b + ")", () -> x.held(p, d, b), () -> m.held(p, d, b));
            same("peek(" + p + ", " + a + ")", () -> x.peek(p, a), () -> m.peek(p, a));
            same("wrote(" + p + ", " + a + ")", () -> x.wrote(p, a), () -> m.wrote(p, a));
            same("text(" + p + ", " + a + ", " + b + ")", () -> x.text(p, a, b), () -> m.text(p, a, b));
        }
    }

    private void allSeen() {
        for (int q = 0; q < 16; q++) {
            int p = q;
            processSeen(p);
            for (int i = 0; i < 65536; i += m.peek(p, i) < 0 ? 1024 : 1) {
                int a = i;
                same("peek(" + p + ", " + a + ")", () -> x.peek(p, a), () -> m.peek(p, a));
            }
        }
    }
}
