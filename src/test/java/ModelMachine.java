import java.util.ArrayDeque;
import java.util.ArrayList;
import java.util.Arrays;
import java.util.Collections;
import java.util.IdentityHashMap;
import java.util.List;
import java.util.Set;

/** The model's machine: processes under the kernel, their open things, and outside events; it only goes forwards. */
final class ModelMachine {
    static final int ABSENT = 0;
    static final int READY = 1;
    static final int WAITING = 2;
    static final int ENDED = 3;

    /** What a page stands in. */
    static final class Frame {
        final byte[] bytes = new byte[1024];
    }

    static final class FileThing {
        String name;
        final byte[] bytes = new byte[512];
        int length;
    }

    static final class PipeThing {
        final ArrayDeque<Byte> bytes = new ArrayDeque<>();
    }

    /** kind: 1 reads a pipe, 2 writes one, 3 a file, 4 the console. */
    static final class Opening {
        int kind;
        int rights;
        int position;
        FileThing file;
        PipeThing pipe;
    }

    static final class Process {
        int status;
        int parent = -1;
        int code;
        boolean within;
        boolean[] pending = new boolean[16];
        int[] handler = new int[16];
        int[] x = new int[33];
        int[] saved = new int[33];
        Frame[] frame = new Frame[64];
        int[] rights = new int[64];
        Opening[] fd = new Opening[16];
        int heapStart;
        int heapEnd;
        Long sleepsTo;
    }

    /** A signal that a step, or a call, is. */
    static final class Trap extends RuntimeException {
        final int signal;

        Trap(int signal) {
            super(null, null, false, false);
            this.signal = signal;
        }
    }

    private enum Special { WAIT, NOTHING }

    final Process[] processes = new Process[16];
    final ModelAssembler.Program[] programs;
    int current = -1;
    int latest = 15;
    private int tickedBy = -1;
    int reserved = -1;
    long clock;
    long retired;
    long shownInAll;
    final ArrayDeque<Integer> random = new ArrayDeque<>();
    final ArrayDeque<Byte> typed = new ArrayDeque<>();
    final ArrayDeque<Byte> shown = new ArrayDeque<>();
    final List<FileThing> namedFiles = new ArrayList<>();
    // What the latest tick wrote: process, address, how many bytes.
    int[] wrote;

    ModelMachine(ModelAssembler.Program[] programs, int p) {
        this.programs = programs;
        for (int i = 0; i < 16; i++) {
            processes[i] = new Process();
        }
        Process first = processes[0];
        first.status = READY;
        give(first, programs[p]);
        Opening console = new Opening();
        console.kind = 4;
        console.rights = 3;
        first.fd[0] = console;
        first.fd[1] = console;
        settle();
    }

    private static int pages(int bytes) {
        return (bytes + 1023) / 1024;
    }

    private static int needed(ModelAssembler.Program it) {
        return pages(it.textSize) + pages(Math.max(0, it.image.length - it.dataStart)) + 4;
    }

    private static void give(Process to, ModelAssembler.Program it) {
        Arrays.fill(to.frame, null);
        Arrays.fill(to.rights, 0);
        for (int k = 0; k < 64; k++) {
            boolean text = k * 1024 < it.textSize;
            boolean data = k * 1024 >= it.dataStart && k * 1024 < it.image.length;
            if (text || data || k >= 60) {
                to.frame[k] = new Frame();
                to.rights[k] = text ? 5 : 3;
            }
        }
        for (int a = 0; a < it.image.length; a++) {
            if (to.frame[a / 1024] != null) {
                to.frame[a / 1024].bytes[a % 1024] = it.image[a];
            }
        }
        Arrays.fill(to.x, 0);
        to.x[2] = 65536;
        Arrays.fill(to.handler, 0);
        to.within = false;
        to.sleepsTo = null;
        to.heapStart = pages(it.image.length) * 1024;
        to.heapEnd = to.heapStart;
    }

    // ---- memory

    int framesUsed() {
        Set<Frame> all = Collections.newSetFromMap(new IdentityHashMap<>());
        for (Process p : processes) {
            for (Frame f : p.frame) {
                if (f != null) {
                    all.add(f);
                }
            }
        }
        return all.size();
    }

    private boolean isShared(Frame it) {
        int n = 0;
        for (Process p : processes) {
            for (Frame f : p.frame) {
                n += f == it ? 1 : 0;
            }
        }
        return n > 1;
    }

    static boolean may(Process p, long address, int right) {
        return address >= 0 && address < 65536 && p.frame[(int) address / 1024] != null
                && (p.rights[(int) address / 1024] & right) != 0;
    }

    private static boolean mayAll(Process p, int address, int n, int right) {
        long from = address & 0xffffffffL;
        for (int i = 0; i < n; i++) {
            if (!may(p, from + i, right)) {
                return false;
            }
        }
        return true;
    }

    static int byteAt(Process p, int address) {
        return p.frame[address / 1024].bytes[address % 1024] & 255;
    }

    static int some(Process p, int address, int n) {
        int v = 0;
        for (int i = 0; i < n; i++) {
            v |= byteAt(p, address + i) << 8 * i;
        }
        return v;
    }

    /** All bytes are written, or it is signal 7 and nothing is. */
    private void write(int who, int address, byte[] bytes) {
        Process p = processes[who];
        if (bytes.length == 0) {
            return;
        }
        int first = address / 1024;
        int last = (address + bytes.length - 1) / 1024;
        int wanted = 0;
        for (int k = first; k <= last; k++) {
            wanted += isShared(p.frame[k]) ? 1 : 0;
        }
        if (wanted > 256 - framesUsed()) {
            throw new Trap(7);
        }
        for (int k = first; k <= last; k++) {
            if (isShared(p.frame[k])) {
                Frame own = new Frame();
                System.arraycopy(p.frame[k].bytes, 0, own.bytes, 0, 1024);
                p.frame[k] = own;
            }
        }
        for (int i = 0; i < bytes.length; i++) {
            int a = address + i;
            p.frame[a / 1024].bytes[a % 1024] = bytes[i];
            if (reserved >= 0 && a / 4 == reserved / 4) {
                reserved = -1;
            }
        }
        wrote = new int[] {who, address, bytes.length};
    }

    private static byte[] split(int v, int n) {
        byte[] out = new byte[n];
        for (int i = 0; i < n; i++) {
            out[i] = (byte) (v >> 8 * i);
        }
        return out;
    }

    // ---- ticks

    void tick() {
        wrote = null;
        int who = current;
        Process p = processes[who];
        if (tickedBy != who) {
            reserved = -1;
        }
        tickedBy = who;
        int signal = takeable(p);
        if (signal > 0) {
            p.pending[signal] = false;
            take(who, signal);
        } else {
            try {
                if (step(who)) {
                    call(who);
                }
            } catch (Trap trap) {
                if (p.within) {
                    end(who, 128 + trap.signal);
                } else {
                    take(who, trap.signal);
                }
            }
        }
        settle();
    }

    private static int takeable(Process p) {
        if (p.pending[9]) {
            return 9;
        }
        for (int s = 1; s < 16 && !p.within; s++) {
            if (p.pending[s]) {
                return s;
            }
        }
        return 0;
    }

    private void take(int who, int signal) {
        Process p = processes[who];
        if (p.handler[signal] == 0) {
            end(who, 128 + signal);
            return;
        }
        p.saved = p.x.clone();
        p.within = true;
        p.x[10] = signal;
        p.x[32] = p.handler[signal];
    }

    private void end(int who, int code) {
        Process p = processes[who];
        Arrays.fill(p.fd, null);
        Arrays.fill(p.frame, null);
        for (int q = 0; q < 16; q++) {
            Process child = processes[q];
            if (child.status != ABSENT && child.parent == who) {
                child.parent = -1;
                if (child.status == ENDED) {
                    processes[q] = new Process();
                }
            }
        }
        int parent = p.parent;
        int[] x = p.x;
        processes[who] = new Process();
        if (parent >= 0) {
            processes[who].status = ENDED;
            processes[who].parent = parent;
            processes[who].code = code;
            processes[who].x = x;
        }
    }

    private void settle() {
        for (int q = 0; q < 16; q++) {
            if (processes[q].status == WAITING && (takeable(processes[q]) > 0 || !waits(q))) {
                processes[q].status = READY;
            }
        }
        if (current < 0 || processes[current].status != READY) {
            current = nextReady(latest);
        }
        if (current >= 0) {
            latest = current;
        }
    }

    private int nextReady(int behind) {
        for (int k = 1; k <= 16; k++) {
            if (processes[(behind + k) % 16].status == READY) {
                return (behind + k) % 16;
            }
        }
        return -1;
    }

    /** Whether the call that a process waits in would have to wait. */
    private boolean waits(int who) {
        Process p = processes[who];
        switch (p.x[17]) {
            case 3:
                return children(who, false) > 0 && children(who, true) == 0;
            case 6:
                return readWaits(p.fd[p.x[10]], p.x[12]);
            case 7:
                Opening o = p.fd[p.x[10]];
                return countEnds(o.pipe, 1) > 0 && o.pipe.bytes.size() + p.x[12] > 512;
            case 19:
                return clock < p.sleepsTo;
            default:
                return random.isEmpty();
        }
    }

    private int children(int who, boolean ended) {
        int n = 0;
        for (Process q : processes) {
            n += q.status != ABSENT && q.parent == who && (!ended || q.status == ENDED) ? 1 : 0;
        }
        return n;
    }

    // ---- outside

    boolean come(int kind, long a, int b) {
        boolean taken = true;
        switch (kind) {
            case 0:
                taken = processes[(int) a].status == READY;
                if (taken) {
                    current = (int) a;
                }
                break;
            case 1:
                taken = typed.size() + b <= 512;
                for (int i = b - 1; i >= 0 && taken; i--) {
                    typed.add((byte) (a >>> 8 * i));
                }
                break;
            case 2:
                int status = processes[(int) a].status;
                taken = b <= 15 && (status == READY || status == WAITING);
                if (taken) {
                    processes[(int) a].pending[b] = true;
                }
                break;
            case 3:
                clock += a;
                break;
            default:
                taken = random.size() < 16;
                if (taken) {
                    random.add((int) a);
                }
                break;
        }
        settle();
        return taken;
    }

    // ---- calls

    private void call(int who) {
        Process p = processes[who];
        Object answer = answer(who, p, p.x[10], p.x[11], p.x[12]);
        if (answer == Special.WAIT) {
            p.status = WAITING;
        } else if (answer != Special.NOTHING) {
            p.x[10] = (Integer) answer;
            p.x[32] += 4;
        }
    }

    private Object answer(int who, Process p, int a, int b, int c) {
        switch (p.x[17]) {
            case 0:
                end(who, a & 255);
                return Special.NOTHING;
            case 1:
                return fork(who, p);
            case 2:
                return exec(p, a);
            case 3:
                return waitFor(who);
            case 4:
                return who;
            case 5:
                return pipe(who, p, a);
            case 6:
                return read(who, p, a, b, c);
            case 7:
                return write(p, a, b, c);
            case 8:
                if (at(p, a) == null) {
                    return -1;
                }
                p.fd[a] = null;
                return 0;
            case 9:
                return dup(p, a, b);
            case 10:
                return open(p, a, b);
            case 11:
                return unlink(p, a);
            case 12:
                return seek(p, a, b, c);
            case 13:
                return rename(p, a, b);
            case 14:
                return grow(p, a);
            case 15:
                current = nextReady(who);
                return 0;
            default:
                return otherAnswer(p, a, b);
        }
    }

    private Object otherAnswer(Process p, int a, int b) {
        switch (p.x[17]) {
            case 16:
                if (a < 0 || a > 15 || b < 1 || b > 15) {
                    return -22;
                }
                if (processes[a].status == ABSENT || processes[a].status == ENDED) {
                    return -10;
                }
                processes[a].pending[b] = true;
                return 0;
            case 17:
                if (a < 1 || a > 15 || a == 9) {
                    return -22;
                }
                int was = p.handler[a];
                p.handler[a] = b;
                return was;
            case 18:
                if (!p.within) {
                    return -22;
                }
                p.x = p.saved.clone();
                p.within = false;
                return Special.NOTHING;
            case 19:
                if (p.sleepsTo == null) {
                    p.sleepsTo = clock + Integer.toUnsignedLong(a);
                }
                if (clock < p.sleepsTo) {
                    return Special.WAIT;
                }
                p.sleepsTo = null;
                return 0;
            case 20:
                p.x[11] = (int) (clock >>> 32);
                return (int) clock;
            case 21:
                return random.isEmpty() ? Special.WAIT : (Object) random.remove();
            default:
                return -38;
        }
    }

    private Object fork(int who, Process p) {
        for (int q = 0; q < 16; q++) {
            if (processes[q].status == ABSENT) {
                Process child = new Process();
                child.status = READY;
                child.parent = who;
                child.x = p.x.clone();
                child.x[10] = 0;
                child.x[32] += 4;
                child.saved = p.saved.clone();
                child.within = p.within;
                child.handler = p.handler.clone();
                child.frame = p.frame.clone();
                child.rights = p.rights.clone();
                child.fd = p.fd.clone();
                child.heapStart = p.heapStart;
                child.heapEnd = p.heapEnd;
                processes[q] = child;
                return q;
            }
        }
        return -4;
    }

    private Object exec(Process p, int a) {
        if (a < 0 || a > 3 || programs[a] == null) {
            return -2;
        }
        if (256 - framesUsed() < needed(programs[a])) {
            return -4;
        }
        give(p, programs[a]);
        reserved = -1;
        return Special.NOTHING;
    }

    private Object waitFor(int who) {
        if (children(who, false) == 0) {
            return -10;
        }
        for (int q = 0; q < 16; q++) {
            if (processes[q].status == ENDED && processes[q].parent == who) {
                int answer = q + 256 * processes[q].code;
                processes[q] = new Process();
                return answer;
            }
        }
        return Special.WAIT;
    }

    // ---- open things

    private static Opening at(Process p, int d) {
        return d < 0 || d > 15 ? null : p.fd[d];
    }

    private static int free(Process p, int from) {
        for (int d = from; d < 16; d++) {
            if (p.fd[d] == null) {
                return d;
            }
        }
        return -1;
    }

    Set<Opening> openings() {
        Set<Opening> all = Collections.newSetFromMap(new IdentityHashMap<>());
        for (Process p : processes) {
            for (Opening o : p.fd) {
                if (o != null) {
                    all.add(o);
                }
            }
        }
        return all;
    }

    int users(Opening it) {
        int n = 0;
        for (Process p : processes) {
            for (Opening o : p.fd) {
                n += o == it ? 1 : 0;
            }
        }
        return n;
    }

    private int countEnds(PipeThing pipe, int kind) {
        int n = 0;
        for (Opening o : openings()) {
            n += o.pipe == pipe && o.kind == kind ? 1 : 0;
        }
        return n;
    }

    private int pipes() {
        Set<PipeThing> all = Collections.newSetFromMap(new IdentityHashMap<>());
        for (Opening o : openings()) {
            if (o.pipe != null) {
                all.add(o.pipe);
            }
        }
        return all.size();
    }

    private int files() {
        Set<FileThing> all = Collections.newSetFromMap(new IdentityHashMap<>());
        all.addAll(namedFiles);
        for (Opening o : openings()) {
            if (o.file != null) {
                all.add(o.file);
            }
        }
        return all.size();
    }

    private Object pipe(int who, Process p, int a) {
        if (a % 4 != 0) {
            return -22;
        }
        if (!mayAll(p, a, 8, 2)) {
            return -14;
        }
        int first = free(p, 0);
        int second = first < 0 ? -1 : free(p, first + 1);
        if (second < 0 || openings().size() > 46 || pipes() > 7) {
            return -4;
        }
        byte[] bytes = Arrays.copyOf(split(first, 4), 8);
        System.arraycopy(split(second, 4), 0, bytes, 4, 4);
        write(who, a, bytes);
        PipeThing made = new PipeThing();
        for (int kind = 1; kind <= 2; kind++) {
            Opening o = new Opening();
            o.kind = kind;
            o.rights = kind;
            o.pipe = made;
            p.fd[kind == 1 ? first : second] = o;
        }
        return 0;
    }

    private boolean readWaits(Opening o, int n) {
        if (n == 0 || o.kind == 3) {
            return false;
        }
        return o.kind == 4 ? typed.isEmpty() : o.pipe.bytes.isEmpty() && countEnds(o.pipe, 2) > 0;
    }

    private Object read(int who, Process p, int d, int address, int n) {
        if (n < 0 || n > 512) {
            return -22;
        }
        if (!mayAll(p, address, n, 2)) {
            return -14;
        }
        Opening o = at(p, d);
        if (o == null || (o.rights & 1) == 0) {
            return -1;
        }
        if (readWaits(o, n)) {
            return Special.WAIT;
        }
        java.io.ByteArrayOutputStream got = new java.io.ByteArrayOutputStream();
        boolean end = false;
        if (o.kind == 3) {
            for (int i = o.position; i < o.file.length && got.size() < n; i++) {
                got.write(o.file.bytes[i]);
            }
        } else {
            for (byte it : o.kind == 4 ? typed : o.pipe.bytes) {
                if (got.size() == n || end) {
                    break;
                }
                if (o.kind == 4 && it == 4) {
                    end = true;
                } else {
                    got.write(it);
                }
            }
        }
        write(who, address, got.toByteArray());
        for (int i = 0; i < got.size() + (end ? 1 : 0) && o.kind != 3; i++) {
            (o.kind == 4 ? typed : o.pipe.bytes).remove();
        }
        o.position += o.kind == 3 ? got.size() : 0;
        return got.size();
    }

    private Object write(Process p, int d, int address, int n) {
        if (n < 0 || n > 512) {
            return -22;
        }
        if (!mayAll(p, address, n, 1)) {
            return -14;
        }
        Opening o = at(p, d);
        if (o == null || (o.rights & 2) == 0) {
            return -1;
        }
        if (o.kind == 2 && countEnds(o.pipe, 1) == 0) {
            return -5;
        }
        if (n == 0) {
            return 0;
        }
        if (o.kind == 2 && o.pipe.bytes.size() + n > 512) {
            return Special.WAIT;
        }
        int place = o.kind != 3 ? 0 : (o.rights & 4) != 0 ? o.file.length : o.position;
        if (place + n > 512) {
            return -7;
        }
        for (int i = 0; i < n; i++) {
            byte it = (byte) byteAt(p, address + i);
            if (o.kind == 2) {
                o.pipe.bytes.add(it);
            } else if (o.kind == 4) {
                shown.add(it);
                shownInAll++;
                if (shown.size() > 2048) {
                    shown.remove();
                }
            } else {
                while (o.file.length < place + i) {
                    o.file.bytes[o.file.length] = 0;
                    o.file.length++;
                }
                o.file.bytes[place + i] = it;
                o.file.length = Math.max(o.file.length, place + i + 1);
                o.position = place + i + 1;
            }
        }
        return n;
    }

    private Object dup(Process p, int a, int b) {
        if (b < -1 || b > 15) {
            return -22;
        }
        if (at(p, a) == null) {
            return -1;
        }
        int d = b == -1 ? free(p, 0) : b;
        if (d < 0) {
            return -4;
        }
        p.fd[d] = p.fd[a];
        return d;
    }

    /** The name at an address, or a negative answer. */
    private static Object name(Process p, int address) {
        StringBuilder out = new StringBuilder();
        boolean bad = false;
        for (int i = 0; i < 16; i++) {
            if (!may(p, (address & 0xffffffffL) + i, 1)) {
                return -14;
            }
            int c = byteAt(p, address + i);
            if (c == 0) {
                return bad || out.length() == 0 ? -22 : (Object) out.toString();
            }
            bad = bad || c < 33 || c > 126;
            out.append((char) c);
        }
        return -22;
    }

    private FileThing fileNamed(Object name) {
        for (FileThing it : namedFiles) {
            if (it.name.equals(name)) {
                return it;
            }
        }
        return null;
    }

    private Object open(Process p, int a, int how) {
        if (how < 1 || how > 63 || (how & 3) == 0 || (how & 6) == 4 || (how & 24) == 16 || (how & 34) == 32) {
            return -22;
        }
        Object name = name(p, a);
        if (name instanceof Integer) {
            return name;
        }
        FileThing file = fileNamed(name);
        if (file == null && (how & 8) == 0) {
            return -2;
        }
        if (file != null && (how & 16) != 0) {
            return -3;
        }
        int d = free(p, 0);
        if (d < 0 || openings().size() == 48 || file == null && files() == 16) {
            return -4;
        }
        if (file == null) {
            file = new FileThing();
            file.name = (String) name;
            namedFiles.add(file);
        }
        if ((how & 32) != 0) {
            file.length = 0;
        }
        Opening o = new Opening();
        o.kind = 3;
        o.rights = how & 7;
        o.file = file;
        p.fd[d] = o;
        return d;
    }

    private Object unlink(Process p, int a) {
        Object name = name(p, a);
        if (name instanceof Integer) {
            return name;
        }
        FileThing file = fileNamed(name);
        if (file == null) {
            return -2;
        }
        namedFiles.remove(file);
        return 0;
    }

    private Object seek(Process p, int a, int b, int c) {
        if (c < 0 || c > 2) {
            return -22;
        }
        Opening o = at(p, a);
        if (o == null || o.kind != 3) {
            return -1;
        }
        long to = (long) b + (c == 0 ? 0 : c == 1 ? o.position : o.file.length);
        if (to < 0 || to > 512) {
            return -1;
        }
        o.position = (int) to;
        return (int) to;
    }

    private Object rename(Process p, int a, int b) {
        Object from = name(p, a);
        if (from instanceof Integer) {
            return from;
        }
        Object to = name(p, b);
        if (to instanceof Integer) {
            return to;
        }
        FileThing file = fileNamed(from);
        if (file == null) {
            return -2;
        }
        FileThing other = fileNamed(to);
        if (other != null && other != file) {
            namedFiles.remove(other);
        }
        file.name = (String) to;
        return 0;
    }

    private Object grow(Process p, int a) {
        if (a < p.heapStart || a > 61440 - 1024) {
            return -22;
        }
        int wanted = 0;
        for (int k = p.heapStart / 1024; k < 60; k++) {
            wanted += k * 1024 < a && p.frame[k] == null ? 1 : 0;
        }
        if (wanted > 256 - framesUsed()) {
            return -4;
        }
        for (int k = p.heapStart / 1024; k < 60; k++) {
            if (k * 1024 >= a) {
                p.frame[k] = null;
            } else if (p.frame[k] == null) {
                p.frame[k] = new Frame();
                p.rights[k] = 3;
            }
        }
        int was = p.heapEnd;
        p.heapEnd = a;
        return was;
    }

    // ---- the hart

    /** Whether it is a call; all other traps are thrown. */
    private boolean step(int who) {
        Process p = processes[who];
        int place = p.x[32];
        if ((place & 1) != 0 || !mayAll(p, place, 2, 4)) {
            throw new Trap(11);
        }
        int half = some(p, place, 2);
        if ((half & 3) != 3) {
            p.x[32] = small(who, p, half, place);
        } else {
            if (!mayAll(p, place, 4, 4)) {
                throw new Trap(11);
            }
            int bits = some(p, place, 4);
            if (bits == 0x73) {
                return true;
            }
            p.x[32] = large(who, p, bits, place);
        }
        p.x[0] = 0;
        retired++;
        return false;
    }

    private static int i(String layout, int bits, boolean signed) {
        return ModelFields.gather(layout, bits, signed);
    }

    private static int load(Process p, int address, int n, boolean signed) {
        if (Integer.remainderUnsigned(address, n) != 0) {
            throw new Trap(7);
        }
        if (!mayAll(p, address, n, 1)) {
            throw new Trap(11);
        }
        int v = some(p, address, n);
        int shift = 32 - 8 * n;
        return signed ? v << shift >> shift : v;
    }

    private void store(int who, Process p, int address, int n, int v) {
        if (Integer.remainderUnsigned(address, n) != 0) {
            throw new Trap(7);
        }
        if (!mayAll(p, address, n, 2)) {
            throw new Trap(11);
        }
        write(who, address, split(v, n));
    }

    /** A short one: where the place is behind it. */
    private int small(int who, Process p, int half, int place) {
        int[] x = p.x;
        int f = half >> 13;
        int dd = half >> 7 & 31;
        int bb = half >> 2 & 31;
        int low = 8 + (half >> 2 & 7);
        int high = 8 + (half >> 7 & 7);
        boolean bit12 = (half >> 12 & 1) != 0;
        int n = i("5@12 4:0@6", half, true);
        switch ((half & 3) * 8 + f) {
            case 0:
                int u = i("5:4|9:6|2|3@12", half, false);
                need(u != 0);
                x[low] = x[2] + u;
                break;
            case 2:
                x[low] = load(p, x[high] + i("5:3@12 2@6 6@5", half, false), 4, true);
                break;
            case 6:
                store(who, p, x[high] + i("5:3@12 2@6 6@5", half, false), 4, x[low]);
                break;
            case 8:
                set(x, dd, x[dd] + n);
                break;
            case 9:
            case 13:
                if (f == 1) {
                    x[1] = place + 2;
                }
                return place + i("11|4|9:8|10|6|7|3:1|5@12", half, true);
            case 10:
                set(x, dd, n);
                break;
            case 11:
                if (dd == 2) {
                    int more = i("9@12 4|6|8:7|5@6", half, true);
                    need(more != 0);
                    x[2] += more;
                } else {
                    need(n != 0);
                    set(x, dd, n << 12);
                }
                break;
            case 12:
                x[high] = smallSum(x[high], x[low], half, bit12, n);
                break;
            case 14:
            case 15:
                if ((x[high] == 0) == (f == 6)) {
                    return place + i("8|4:3@12 7:6|2:1|5@6", half, true);
                }
                break;
            case 16:
                need(!bit12);
                set(x, dd, x[dd] << bb);
                break;
            case 18:
                need(dd != 0);
                x[dd] = load(p, x[2] + i("5@12 4:2|7:6@6", half, false), 4, true);
                break;
            case 20:
                return moves(x, dd, bb, bit12, place);
            case 22:
                store(who, p, x[2] + i("5:2|7:6@12", half, false), 4, x[bb]);
                break;
            default:
                throw new Trap(4);
        }
        return place + 2;
    }

    private static void need(boolean good) {
        if (!good) {
            throw new Trap(4);
        }
    }

    private static void set(int[] x, int d, int v) {
        if (d != 0) {
            x[d] = v;
        }
    }

    private static int smallSum(int a, int b, int half, boolean bit12, int n) {
        int which = half >> 10 & 3;
        if (which == 2) {
            return a & n;
        }
        need(!bit12);
        if (which < 2) {
            return which == 0 ? a >>> (half >> 2 & 31) : a >> (half >> 2 & 31);
        }
        int sub = half >> 5 & 3;
        return sub == 0 ? a - b : sub == 1 ? a ^ b : sub == 2 ? a | b : a & b;
    }

    private static int moves(int[] x, int dd, int bb, boolean bit12, int place) {
        if (bb != 0) {
            set(x, dd, (bit12 ? x[dd] : 0) + x[bb]);
            return place + 2;
        }
        if (dd == 0) {
            throw new Trap(bit12 ? 5 : 4);
        }
        int to = x[dd] & -2;
        if (bit12) {
            x[1] = place + 2;
        }
        return to;
    }

    private int large(int who, Process p, int bits, int place) {
        int[] x = p.x;
        int d = bits >> 7 & 31;
        int f = bits >> 12 & 7;
        int a = x[bits >> 15 & 31];
        int b = x[bits >> 20 & 31];
        int g = bits >>> 25;
        int number = bits >> 20;
        switch (bits & 127) {
            case 0x37:
                set(x, d, bits >> 12 << 12);
                break;
            case 0x17:
                set(x, d, place + (bits >> 12 << 12));
                break;
            case 0x6f:
                set(x, d, place + 4);
                return place + i("20|10:1|11|19:12@31", bits, true);
            case 0x67:
                need(f == 0);
                set(x, d, place + 4);
                return a + number & -2;
            case 0x63:
                need(f != 2 && f != 3);
                boolean[] is = {a == b, a != b, false, false, a < b, a >= b, Integer.compareUnsigned(a, b) < 0,
                    Integer.compareUnsigned(a, b) >= 0};
                return is[f] ? place + i("12|10:5@31 4:1|11@11", bits, true) : place + 4;
            case 0x03:
                need(f != 3 && f < 6);
                set(x, d, load(p, a + number, 1 << (f & 3), f < 4));
                break;
            case 0x23:
                need(f < 3);
                store(who, p, a + i("11:5@31 4:0@11", bits, true), 1 << f, b);
                break;
            case 0x13:
                need(f == 1 ? g == 0 : f != 5 || g == 0 || g == 32);
                set(x, d, f == 5 && g == 32 ? a >> (number & 31) : sum(f, a, number));
                break;
            case 0x33:
                set(x, d, sums(f, g, a, b));
                break;
            case 0x2f:
                need(f == 2);
                atomic(who, p, bits, d, a, b);
                break;
            case 0x0f:
                need(f < 2);
                break;
            case 0x73:
                counter(x, bits, d, f);
                break;
            default:
                throw new Trap(4);
        }
        return place + 4;
    }

    private static int sum(int f, int a, int b) {
        int[] all = {a + b, a << (b & 31), a < b ? 1 : 0, Integer.compareUnsigned(a, b) < 0 ? 1 : 0, a ^ b, a >>> (b & 31),
            a | b, a & b};
        return all[f];
    }

    private static int sums(int f, int g, int a, int b) {
        if (g == 0) {
            return sum(f, a, b);
        }
        if (g == 32) {
            need(f == 0 || f == 5);
            return f == 0 ? a - b : a >> (b & 31);
        }
        need(g == 1);
        java.math.BigInteger sa = java.math.BigInteger.valueOf(a);
        java.math.BigInteger sb = java.math.BigInteger.valueOf(b);
        java.math.BigInteger ua = java.math.BigInteger.valueOf(a & 0xffffffffL);
        java.math.BigInteger ub = java.math.BigInteger.valueOf(b & 0xffffffffL);
        switch (f) {
            case 0:
                return sa.multiply(sb).intValue();
            case 1:
                return sa.multiply(sb).shiftRight(32).intValue();
            case 2:
                return sa.multiply(ub).shiftRight(32).intValue();
            case 3:
                return ua.multiply(ub).shiftRight(32).intValue();
            case 4:
                return b == 0 ? -1 : sa.divide(sb).intValue();
            case 5:
                return b == 0 ? -1 : ua.divide(ub).intValue();
            case 6:
                return b == 0 ? a : sa.remainder(sb).intValue();
            default:
                return b == 0 ? a : ua.remainder(ub).intValue();
        }
    }

    private void atomic(int who, Process p, int bits, int d, int a, int b) {
        int k = bits >>> 27;
        need("0 1 2 3 4 8 12 16 20 24 28".matches("(^|.* )" + k + "( .*|$)") && (k != 2 || (bits >> 20 & 31) == 0));
        if ((a & 3) != 0) {
            throw new Trap(7);
        }
        if (!mayAll(p, a, 4, 1) || k != 2 && !mayAll(p, a, 4, 2)) {
            throw new Trap(11);
        }
        int word = some(p, a, 4);
        if (k == 2) {
            set(p.x, d, word);
            reserved = a;
        } else if (k == 3) {
            boolean done = reserved == a;
            if (done) {
                write(who, a, split(b, 4));
            }
            reserved = -1;
            set(p.x, d, done ? 0 : 1);
        } else {
            long w = word & 0xffffffffL;
            long u = b & 0xffffffffL;
            int becomes = k == 0 ? word + b : k == 1 ? b : k == 4 ? word ^ b : k == 12 ? word & b : k == 8 ? word | b
                    : k == 16 ? Math.min(word, b) : k == 20 ? Math.max(word, b)
                    : (int) (k == 24 ? Math.min(w, u) : Math.max(w, u));
            write(who, a, split(becomes, 4));
            set(p.x, d, word);
        }
    }

    private void counter(int[] x, int bits, int d, int f) {
        if (bits == 0x100073) {
            throw new Trap(5);
        }
        need((f == 2 || f == 3 || f == 6 || f == 7) && (bits >> 15 & 31) == 0);
        switch (bits >>> 20) {
            case 0xc00:
            case 0xc02:
                set(x, d, (int) retired);
                break;
            case 0xc80:
            case 0xc82:
                set(x, d, (int) (retired >>> 32));
                break;
            case 0xc01:
                set(x, d, (int) clock);
                break;
            case 0xc81:
                set(x, d, (int) (clock >>> 32));
                break;
            default:
                throw new Trap(4);
        }
    }
}
