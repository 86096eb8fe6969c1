import java.io.ByteArrayOutputStream;
import java.util.ArrayList;
import java.util.Arrays;
import java.util.List;

/**
 * The document written a second time, plainly and without regard to speed, with the same face: going back is running
 * again from count 0. What it shares with the class is nothing but the document.
 */
final class Model {
    private byte[] tape = new byte[0];
    private boolean fresh;
    private final ModelAssembler.Program[] programs = new ModelAssembler.Program[4];
    private final ModelCondition[] breaks = new ModelCondition[8];
    private byte[] log = new byte[0];
    private int why;
    // Of what is booted.
    private ModelAssembler.Program[] had;
    private int bootedFrom;
    private ModelMachine machine;
    private int now;
    private int end;
    private List<ModelLog.Event> recording = new ArrayList<>();
    private List<ModelLog.Event> scheduled = new ArrayList<>();
    private boolean missed;
    private final List<int[]> writes = new ArrayList<>();

    // ---- the tape and programs

    int feed(int a, int b, int c, int d, int e) {
        if (tape.length + 20 > 32768) {
            return -1;
        }
        ByteArrayOutputStream out = new ByteArrayOutputStream();
        out.writeBytes(tape);
        for (int it : new int[] {a, b, c, d, e}) {
            out.write(it >> 24);
            out.write(it >> 16);
            out.write(it >> 8);
            out.write(it);
        }
        tape = out.toByteArray();
        fresh = true;
        return tape.length;
    }

    int end(int n) {
        if (n < 0 || n > 20 || !fresh) {
            return -1;
        }
        tape = Arrays.copyOf(tape, tape.length - 20 + n);
        fresh = false;
        return tape.length;
    }

    private byte[] used() {
        byte[] it = tape;
        tape = new byte[0];
        fresh = false;
        return it;
    }

    private static void argument(boolean good) {
        if (!good) {
            throw new IllegalArgumentException();
        }
    }

    private static void state(boolean good) {
        if (!good) {
            throw new IllegalStateException();
        }
    }

    int assemble(int p) {
        argument(p >= 0 && p < 4);
        ModelAssembler it = new ModelAssembler();
        int fault = it.assemble(used());
        if (fault == 0) {
            programs[p] = it.made;
        }
        return fault;
    }

    private ModelAssembler.Program of(int p) {
        return p >= 0 && p < 4 ? programs[p] : null;
    }

    int program(int p, int what) {
        ModelAssembler.Program it = of(p);
        if (it == null || what < 0 || what > 4) {
            return -1;
        }
        return new int[] {it.textSize, it.dataStart, it.image.length, it.labels.size(), it.constants}[what];
    }

    int image(int p, int k) {
        ModelAssembler.Program it = of(p);
        return it == null || k < 0 || k >= it.image.length ? -1 : it.image[k] & 255;
    }

    int label(int p, int k) {
        ModelAssembler.Program it = of(p);
        return it == null || k < 0 || k >= it.labels.size() ? -1 : it.labels.get(k);
    }

    int before(int p, int a) {
        ModelAssembler.Program it = of(p);
        int best = -1;
        for (int k = 0; it != null && k < it.labels.size(); k++) {
            if (it.labels.get(k) <= a && (best < 0 || it.labels.get(k) >= it.labels.get(best))) {
                best = k;
            }
        }
        return best;
    }

    int line(int p, int k) {
        ModelAssembler.Program it = of(p);
        return it == null || k < 0 || k >= it.lines.length ? 0 : it.lines[k];
    }

    // ---- running

    void boot(int p) {
        argument(p >= 0 && p < 4);
        state(programs[p] != null);
        start(p, new ArrayList<>());
    }

    private void start(int p, List<ModelLog.Event> coming) {
        had = programs.clone();
        bootedFrom = p;
        machine = new ModelMachine(had, p);
        now = 0;
        end = 0;
        recording = new ArrayList<>();
        scheduled = coming;
        missed = false;
        writes.clear();
        takeScheduled();
    }

    int replay(int p) {
        argument(p >= 0 && p < 4);
        state(programs[p] != null);
        ModelLog it = new ModelLog(used());
        int answer = it.read();
        if (answer >= 0) {
            start(p, it.events);
        }
        return answer;
    }

    private void takeScheduled() {
        while (!scheduled.isEmpty() && scheduled.get(0).at() == end) {
            ModelLog.Event it = scheduled.remove(0);
            if (recording.size() < 2048 && machine.come(it.kind(), it.a(), it.b())) {
                recording.add(it);
            } else {
                scheduled.clear();
                missed = true;
            }
        }
    }

    int outside(int kind, long a, int b) {
        boolean process = a >= 0 && a <= 15;
        argument(kind == 0 && process || kind == 1 && b >= 1 && b <= 8 || kind == 2 && process && b >= 1 && b <= 31
                || kind == 3 && a >= 0 && a <= 1L << 40 || kind == 4);
        state(machine != null);
        if (now != end || !scheduled.isEmpty()) {
            return 2;
        }
        if (recording.size() == 2048) {
            return 3;
        }
        long what = kind == 4 ? a & 0xffffffffL : kind == 1 && b < 8 ? a & (1L << 8 * b) - 1 : a;
        int with = kind == 1 || kind == 2 ? b : 0;
        if (!machine.come(kind, what, with)) {
            return 1;
        }
        recording.add(new ModelLog.Event(kind, now, what, with));
        return 0;
    }

    /** A machine that is run again from count 0, up to a count and with its events. */
    private ModelMachine again(int c) {
        ModelMachine it = new ModelMachine(had, bootedFrom);
        comeAgain(it, 0);
        for (int k = 1; k <= c; k++) {
            it.tick();
            comeAgain(it, k);
        }
        return it;
    }

    private void comeAgain(ModelMachine it, int c) {
        for (ModelLog.Event e : recording) {
            if (e.at() == c && !it.come(e.kind(), e.a(), e.b())) {
                throw new AssertionError("an event that was taken is not taken again");
            }
        }
    }

    int run(int n) {
        argument(n >= 0 && n <= 60000);
        state(machine != null);
        int made = 0;
        why = 0;
        if (missed) {
            why = 5;
            missed = false;
            return 0;
        }
        while (made < n && why == 0) {
            why = now == 60000 ? 4 : machine.current >= 0 ? 0 : someWait() ? 1 : 2;
            if (why == 0) {
                tickOnce();
                made++;
            }
        }
        return made;
    }

    private boolean someWait() {
        for (ModelMachine.Process p : machine.processes) {
            if (p.status == ModelMachine.WAITING) {
                return true;
            }
        }
        return false;
    }

    private void tickOnce() {
        for (ModelCondition it : breaks) {
            if (it != null) {
                it.remember(machine, now);
            }
        }
        machine.tick();
        if (now == writes.size()) {
            writes.add(machine.wrote);
        }
        now++;
        comeAgain(machine, now);
        if (now > end) {
            end = now;
            takeScheduled();
        }
        if (missed) {
            missed = false;
            why = 5;
            return;
        }
        for (int k = 7; k >= 0; k--) {
            if (breaks[k] != null && breaks[k].value(machine, now) != 0) {
                why = 3 + 8 * k;
            }
        }
    }

    int reason() {
        return why;
    }

    void go(int c) {
        argument(machine != null && c >= 0 && c <= end);
        to(c);
    }

    private void to(int c) {
        machine = again(c);
        now = c;
    }

    int cut() {
        if (machine == null) {
            return 0;
        }
        int gone = end - now;
        end = now;
        writes.subList(now, writes.size()).clear();
        recording.removeIf(it -> it.at() > now);
        scheduled.clear();
        missed = false;
        return gone;
    }

    // ---- breaks

    int watch(int k) {
        argument(k >= 0 && k < 8);
        ModelCondition it = new ModelCondition();
        int fault = it.compile(used());
        if (fault == 0) {
            breaks[k] = it;
        }
        return fault;
    }

    boolean drop(int k) {
        argument(k >= 0 && k < 8);
        boolean was = breaks[k] != null;
        breaks[k] = null;
        return was;
    }

    long value(int k) {
        argument(k >= 0 && k < 8);
        state(breaks[k] != null && machine != null);
        int last = Math.max(0, now - 1);
        breaks[k].remember(again(last), last);
        return breaks[k].value(machine, now);
    }

    int backTo(int k) {
        argument(k >= 0 && k < 8);
        state(breaks[k] != null && machine != null);
        ModelMachine it = again(0);
        int found = -1;
        breaks[k].remember(it, 0);
        for (int c = 0; c < now; c++) {
            if (c > 0) {
                breaks[k].remember(it, c - 1);
                it.tick();
                comeAgain(it, c);
            }
            found = breaks[k].value(it, c) != 0 ? c : found;
        }
        if (found >= 0) {
            to(found);
        }
        return found;
    }

    int wrote(int p, int address) {
        if (machine == null || p < 0 || p > 15 || address < 0 || address > 65535) {
            return -1;
        }
        for (int c = now - 1; c >= 0; c--) {
            int[] it = writes.get(c);
            if (it != null && it[0] == p && address >= it[1] && address < it[1] + it[2]) {
                return c;
            }
        }
        return -1;
    }

    // ---- what is to be seen

    private ModelMachine.Process at(int p) {
        return machine == null || p < 0 || p > 15 ? new ModelMachine.Process() : machine.processes[p];
    }

    int register(int p, int r) {
        return r < 0 || r > 32 ? 0 : at(p).x[r];
    }

    int process(int p, int what) {
        ModelMachine.Process it = at(p);
        switch (what) {
            case 0:
                return it.status;
            case 1:
                return it.parent;
            case 2:
                return it.code;
            case 3:
                int bits = 0;
                for (int s = 1; s < 16; s++) {
                    bits += it.pending[s] ? 1 << s : 0;
                }
                return bits;
            case 4:
                return it.within ? 1 : 0;
            case 5:
                int n = 0;
                for (ModelMachine.Frame f : it.frame) {
                    n += f == null ? 0 : 1;
                }
                return n;
            case 6:
                return it.heapEnd;
            case 7:
                return it.status == ModelMachine.WAITING ? it.x[17] : -1;
            default:
                return -1;
        }
    }

    int peek(int p, int address) {
        ModelMachine.Process it = at(p);
        return address < 0 || address > 65535 || it.frame[address / 1024] == null ? -1 : ModelMachine.byteAt(it, address);
    }

    String text(int p, int address) {
        ModelMachine.Process it = at(p);
        if ((address & 1) != 0 || !ModelMachine.may(it, address, 4)) {
            return "";
        }
        int bits = ModelMachine.some(it, address, 2);
        if ((bits & 3) == 3) {
            if (!ModelMachine.may(it, address + 2, 4)) {
                return "";
            }
            bits = ModelMachine.some(it, address, 4);
        }
        return ModelFields.text(bits);
    }

    int text(int p, int address, int i) {
        String it = text(p, address);
        return i < 0 || i >= it.length() ? -1 : it.charAt(i);
    }

    private byte[] inside(ModelMachine.Opening o) {
        if (o.kind == 3) {
            return Arrays.copyOf(o.file.bytes, o.file.length);
        }
        ByteArrayOutputStream out = new ByteArrayOutputStream();
        for (byte it : o.kind == 4 ? machine.typed : o.pipe.bytes) {
            out.write(it);
        }
        return out.toByteArray();
    }

    int descriptor(int p, int d, int what) {
        if (d < 0 || d > 15) {
            return -1;
        }
        ModelMachine.Opening o = at(p).fd[d];
        if (what < 0 || what > 4 || o == null && what != 0) {
            return -1;
        }
        return o == null ? 0 : new int[] {o.kind, machine.users(o), inside(o).length, o.position, o.rights}[what];
    }

    int held(int p, int d, int i) {
        ModelMachine.Opening o = d < 0 || d > 15 ? null : at(p).fd[d];
        return o == null || i < 0 || i >= inside(o).length ? -1 : inside(o)[i] & 255;
    }

    int shown(int k) {
        if (machine == null || k < 0 || k >= machine.shown.size()) {
            return -1;
        }
        return machine.shown.toArray(new Byte[0])[k] & 255;
    }

    long count(int what) {
        if (what == 15) {
            return tape.length;
        }
        if (what == 16) {
            return Arrays.stream(breaks).filter(it -> it != null).count();
        }
        if (what < 0 || what > 16) {
            return -1;
        }
        if (machine == null) {
            return what == 2 ? -1 : 0;
        }
        long there = Arrays.stream(machine.processes).filter(it -> it.status != ModelMachine.ABSENT).count();
        long came = recording.stream().filter(it -> it.at() <= now).count();
        return new long[] {now, end, machine.current, recording.size(), came, scheduled.size(), machine.clock,
            machine.random.size(), machine.shownInAll, machine.typed.size(), machine.framesUsed(), there,
            machine.namedFiles.size(), machine.openings().size(), machine.retired}[what];
    }

    // ---- the recording

    int pack() {
        log = ModelLog.pack(recording);
        return log.length;
    }

    int logByte(int k) {
        return k < 0 || k >= log.length ? -1 : log[k] & 255;
    }

    long event(int k, int what) {
        if (k < 0 || k >= recording.size() || what < 0 || what > 3) {
            return -1;
        }
        ModelLog.Event it = recording.get(k);
        return new long[] {it.kind(), it.at(), it.a(), it.b()}[what];
    }
}
