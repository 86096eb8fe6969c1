import java.util.Arrays;

/**
 * A machine that records what comes from outside and runs backwards. The face is here; the classes inside are the
 * assembler (Op, Reader, Assembler, Program), the machine (Machine, Things, Hart, Kernel) and time (Events, Timeline,
 * Condition).
 */
public final class TimeMachine {
    private static final int TAPE = 32768;
    private static final int FED = 20;
    private static final int PROGRAMS = 4;
    private static final int BREAKS = 8;

    // What a statement's name is, as bits: a line that texts are made of; a branch that can become eight bytes; one
    // that begins with two bytes if its register is one of the short ones; a jump that begins with two bytes; la; li.
    private static final int LINE = 1;
    private static final int BRANCH = 2;
    private static final int SHORT_BRANCH = 4;
    private static final int JUMP = 8;
    private static final int LA = 16;
    private static final int LI = 32;

    private final byte[] tape = new byte[TAPE];
    private int taped;
    private boolean fresh;
    private final Program[] programs = new Program[PROGRAMS];
    // Four that are assembled, four that the booted machine has, and one to assemble into.
    private final Program[] programPool = new Program[2 * PROGRAMS + 1];
    private final Assembler assembler = new Assembler();
    private final Timeline timeline = new Timeline();
    private final Condition[] breaks = new Condition[BREAKS];
    // Those of the breaks, and one to compile into.
    private final Condition[] conditionPool = new Condition[BREAKS + 1];
    private final byte[] log = new byte[TAPE];
    private int logged;
    private final StringBuilder letters = new StringBuilder();

    /** Makes all that the calls need and keep, so that a call makes nothing large. */
    public TimeMachine() {
        for (int i = 0; i < programPool.length; i++) {
            programPool[i] = new Program();
        }
        for (int i = 0; i < conditionPool.length; i++) {
            conditionPool[i] = new Condition();
        }
    }

    // ---- the tape and programs

    public int feed(int a, int b, int c, int d, int e) {
        if (taped + FED > TAPE) {
            return -1;
        }
        putOnTape(a);
        putOnTape(b);
        putOnTape(c);
        putOnTape(d);
        putOnTape(e);
        fresh = true;
        return taped;
    }

    public int end(int n) {
        if (n < 0 || n > FED || !fresh) {
            return -1;
        }
        taped -= FED - n;
        fresh = false;
        return taped;
    }

    public int assemble(int p) throws IllegalArgumentException {
        if (p < 0 || p >= PROGRAMS) {
            throw new IllegalArgumentException();
        }
        Program made = unusedProgram();
        int fault = assembler.make(tape, useTape(), made);
        if (fault == 0) {
            programs[p] = made;
        }
        return fault;
    }

    public int program(int p, int what) {
        Program it = programOf(p);
        if (it == null) {
            return -1;
        }
        switch (what) {
            case 0:
                return it.textSize;
            case 1:
                return it.dataStart;
            case 2:
                return it.size;
            case 3:
                return it.labels;
            case 4:
                return it.constants;
            default:
                return -1;
        }
    }

    public int image(int p, int k) {
        Program it = programOf(p);
        return it == null || k < 0 || k >= it.size ? -1 : it.image[k] & 255;
    }

    public int label(int p, int k) {
        Program it = programOf(p);
        return it == null || k < 0 || k >= it.labels ? -1 : it.label[k];
    }

    public int before(int p, int a) {
        Program it = programOf(p);
        return it == null ? -1 : it.labelUpTo(a);
    }

    public int line(int p, int k) {
        Program it = programOf(p);
        return it == null ? 0 : it.lineOf(k);
    }

    // ---- running

    public void boot(int p) throws IllegalArgumentException, IllegalStateException {
        if (p < 0 || p >= PROGRAMS) {
            throw new IllegalArgumentException();
        }
        if (programs[p] == null) {
            throw new IllegalStateException();
        }
        timeline.startWithout(programs, p);
    }

    public int replay(int p) throws IllegalArgumentException, IllegalStateException {
        if (p < 0 || p >= PROGRAMS) {
            throw new IllegalArgumentException();
        }
        if (programs[p] == null) {
            throw new IllegalStateException();
        }
        int answer = timeline.spareEvents.readLog(tape, useTape());
        if (answer >= 0) {
            timeline.startWith(programs, p);
        }
        return answer;
    }

    public int outside(int kind, long a, int b) throws IllegalArgumentException, IllegalStateException {
        if (!Events.isEvent(kind, a, b)) {
            throw new IllegalArgumentException();
        }
        if (!timeline.booted) {
            throw new IllegalStateException();
        }
        return timeline.come(kind, Events.first(kind, a, b), Events.second(kind, b));
    }

    public int run(int n) throws IllegalArgumentException, IllegalStateException {
        if (n < 0 || n > Timeline.LAST) {
            throw new IllegalArgumentException();
        }
        if (!timeline.booted) {
            throw new IllegalStateException();
        }
        return timeline.ticks(n, breaks);
    }

    public int reason() {
        return timeline.why;
    }

    public void go(int c) throws IllegalArgumentException {
        if (!timeline.booted || c < 0 || c > timeline.end) {
            throw new IllegalArgumentException();
        }
        timeline.moveTo(c);
    }

    public int cut() {
        return timeline.booted ? timeline.forgetBehind() : 0;
    }

    // ---- breaks

    public int watch(int k) throws IllegalArgumentException {
        if (k < 0 || k >= BREAKS) {
            throw new IllegalArgumentException();
        }
        Condition made = unusedCondition();
        int fault = made.compile(tape, useTape());
        if (fault == 0) {
            breaks[k] = made;
        }
        return fault;
    }

    public boolean drop(int k) throws IllegalArgumentException {
        if (k < 0 || k >= BREAKS) {
            throw new IllegalArgumentException();
        }
        boolean was = breaks[k] != null;
        breaks[k] = null;
        return was;
    }

    public long value(int k) throws IllegalArgumentException, IllegalStateException {
        if (k < 0 || k >= BREAKS) {
            throw new IllegalArgumentException();
        }
        Condition it = breaks[k];
        if (it == null || !timeline.booted) {
            throw new IllegalStateException();
        }
        int here = timeline.now;
        if (it.olds > 0) {
            timeline.moveTo(Math.max(0, here - 1));
            it.remember(timeline.machine, timeline.now);
            timeline.moveTo(here);
        }
        return it.worth(timeline.machine, here);
    }

    public int backTo(int k) throws IllegalArgumentException, IllegalStateException {
        if (k < 0 || k >= BREAKS) {
            throw new IllegalArgumentException();
        }
        Condition it = breaks[k];
        if (it == null || !timeline.booted) {
            throw new IllegalStateException();
        }
        int here = timeline.now;
        int found = timeline.latest(it);
        timeline.moveTo(found < 0 ? here : found);
        return found;
    }

    public int wrote(int p, int address) {
        return isThere(p) && address >= 0 && address < Machine.SPACE ? timeline.latestWrite(p, address) : -1;
    }

    // ---- what is to be seen, now

    public int register(int p, int r) {
        return isThere(p) && r >= 0 && r < Machine.REGISTERS ? timeline.machine.registerOf(p, r) : 0;
    }

    public int process(int p, int what) {
        if (what < 0 || what > 7) {
            return -1;
        }
        if (!isThere(p)) {
            return what == 1 || what == 7 ? -1 : 0;
        }
        return timeline.machine.told(p, what);
    }

    public int peek(int p, int address) {
        Machine machine = timeline.machine;
        return isThere(p) && machine.may(p, address, Machine.ANY) ? machine.byteAt(p, address) : -1;
    }

    public int text(int p, int address, int i) {
        if (!isThere(p) || i < 0 || (address & 1) != 0 || !timeline.machine.may(p, address, Machine.RUN)) {
            return -1;
        }
        Machine machine = timeline.machine;
        int bits = machine.halfAt(p, address);
        if ((bits & 3) == 3) {
            if (!machine.may(p, address + 2, Machine.RUN)) {
                return -1;
            }
            bits |= machine.halfAt(p, address + 2) << 16;
        }
        letters.setLength(0);
        Op.spell(letters, bits);
        return i < letters.length() ? letters.charAt(i) : -1;
    }

    public int descriptor(int p, int d, int what) {
        if (d < 0 || d >= Things.LINKS || what < 0 || what > 4) {
            return -1;
        }
        int o = isThere(p) ? timeline.machine.things.openingOf(p, d) : -1;
        if (o < 0) {
            return what == 0 ? 0 : -1;
        }
        return timeline.machine.things.told(o, what);
    }

    public int held(int p, int d, int i) {
        int o = isThere(p) ? timeline.machine.things.openingOf(p, d) : -1;
        if (o < 0 || i < 0 || i >= timeline.machine.things.amount(o)) {
            return -1;
        }
        return timeline.machine.things.byteOf(o, i);
    }

    public int shown(int k) {
        return timeline.booted ? timeline.machine.things.shownByte(k) : -1;
    }

    public long count(int what) {
        if (what == 15) {
            return taped;
        }
        if (what == 16) {
            return breaksThere();
        }
        if (what < 0 || what > 14) {
            return -1;
        }
        if (!timeline.booted) {
            return what == 2 ? -1 : 0;
        }
        return what < 6 ? timeline.told(what) : timeline.machine.counted(what);
    }

    // ---- the recording

    public int pack() {
        logged = timeline.events.writeLog(log);
        return logged;
    }

    public int logByte(int k) {
        return k < 0 || k >= logged ? -1 : log[k] & 255;
    }

    public long event(int k, int what) {
        return timeline.events.told(k, what);
    }

    private void putOnTape(int four) {
        for (int shift = 24; shift >= 0; shift -= 8) {
            if (taped < TAPE) {
                tape[taped] = (byte) (four >> shift);
                taped++;
            }
        }
    }

    /** What reads the tape makes it empty: how long it was. */
    private int useTape() {
        int was = taped;
        taped = 0;
        fresh = false;
        return was;
    }

    private Program programOf(int p) {
        return p < 0 || p >= PROGRAMS ? null : programs[p];
    }

    private Program unusedProgram() {
        int i = 0;
        while (i < programPool.length - 1 && isUsedProgram(programPool[i])) {
            i++;
        }
        return programPool[i];
    }

    private boolean isUsedProgram(Program it) {
        for (int p = 0; p < PROGRAMS; p++) {
            if (programs[p] == it || timeline.programs[p] == it) {
                return true;
            }
        }
        return false;
    }

    private Condition unusedCondition() {
        int i = 0;
        while (i < conditionPool.length - 1 && isBreak(conditionPool[i])) {
            i++;
        }
        return conditionPool[i];
    }

    private boolean isBreak(Condition it) {
        for (int k = 0; k < BREAKS; k++) {
            if (breaks[k] == it) {
                return true;
            }
        }
        return false;
    }

    private boolean isThere(int p) {
        return timeline.booted && p >= 0 && p < Machine.PROCESSES;
    }

    private int breaksThere() {
        int n = 0;
        for (int k = 0; k < BREAKS; k++) {
            if (breaks[k] != null) {
                n++;
            }
        }
        return n;
    }

    /** A program that was assembled. */
    private static final class Program {
        static final int PAGE = 1024;
        // One letter and its : are two bytes of the text, but there are fewer than 64 such names.
        private static final int MOST_LABELS = TAPE / 3 + 64;

        final byte[] image = new byte[TAPE];
        int textSize;
        int dataStart;
        int size;
        int constants;
        final int[] label = new int[MOST_LABELS];
        int labels;
        // Of each statement that has bytes.
        private final int[] start = new int[Assembler.MOST];
        private final int[] line = new int[Assembler.MOST];
        private int statements;

        void startDescription(int text, int data, int all) {
            textSize = text;
            dataStart = data;
            size = all;
            labels = 0;
            statements = 0;
        }

        void addLabel(int address) {
            if (labels < label.length) {
                label[labels] = address;
                labels++;
            }
        }

        void addStatement(int address, int lineOf) {
            if (statements < start.length) {
                start[statements] = address;
                line[statements] = lineOf;
                statements++;
            }
        }

        int textPages() {
            return (textSize + PAGE - 1) / PAGE;
        }

        int dataPages() {
            return size > dataStart ? (size - dataStart + PAGE - 1) / PAGE : 0;
        }

        int heapStart() {
            return (size + PAGE - 1) / PAGE * PAGE;
        }

        int labelUpTo(int a) {
            int best = -1;
            for (int k = 0; k < labels; k++) {
                if (label[k] <= a && (best < 0 || label[k] >= label[best])) {
                    best = k;
                }
            }
            return best;
        }

        /** A statement's bytes go up to the next one of its section, or to the section's end. */
        int lineOf(int k) {
            if (k < 0 || k >= size || k >= textSize && k < dataStart) {
                return 0;
            }
            int best = -1;
            for (int i = 0; i < statements; i++) {
                if (start[i] <= k && (best < 0 || start[i] > start[best])) {
                    best = i;
                }
            }
            return best < 0 ? 0 : line[best];
        }
    }

    /**
     * The names of statements. A form has a letter for each operand: a small one for a register, a capital one for an
     * e, each saying which bits the operand has and what it may be.
     */
    private enum Op {
        ADD("add", "d,a,b", 51, LINE),
        SUB("sub", "d,a,b", 51 | 32 << 25, LINE),
        SLL("sll", "d,a,b", 51 | 1 << 12, LINE),
        SLT("slt", "d,a,b", 51 | 2 << 12, LINE),
        SLTU("sltu", "d,a,b", 51 | 3 << 12, LINE),
        XOR("xor", "d,a,b", 51 | 4 << 12, LINE),
        SRL("srl", "d,a,b", 51 | 5 << 12, LINE),
        SRA("sra", "d,a,b", 51 | 5 << 12 | 32 << 25, LINE),
        OR("or", "d,a,b", 51 | 6 << 12, LINE),
        AND("and", "d,a,b", 51 | 7 << 12, LINE),
        MUL("mul", "d,a,b", 51 | 1 << 25, LINE),
        MULH("mulh", "d,a,b", 51 | 1 << 12 | 1 << 25, LINE),
        MULHSU("mulhsu", "d,a,b", 51 | 2 << 12 | 1 << 25, LINE),
        MULHU("mulhu", "d,a,b", 51 | 3 << 12 | 1 << 25, LINE),
        DIV("div", "d,a,b", 51 | 4 << 12 | 1 << 25, LINE),
        DIVU("divu", "d,a,b", 51 | 5 << 12 | 1 << 25, LINE),
        REM("rem", "d,a,b", 51 | 6 << 12 | 1 << 25, LINE),
        REMU("remu", "d,a,b", 51 | 7 << 12 | 1 << 25, LINE),
        ADDI("addi", "d,a,I", 19, LINE),
        SLTI("slti", "d,a,I", 19 | 2 << 12, LINE),
        SLTIU("sltiu", "d,a,I", 19 | 3 << 12, LINE),
        XORI("xori", "d,a,I", 19 | 4 << 12, LINE),
        ORI("ori", "d,a,I", 19 | 6 << 12, LINE),
        ANDI("andi", "d,a,I", 19 | 7 << 12, LINE),
        SLLI("slli", "d,a,H", 19 | 1 << 12, LINE),
        SRLI("srli", "d,a,H", 19 | 5 << 12, LINE),
        SRAI("srai", "d,a,H", 19 | 5 << 12 | 32 << 25, LINE),
        LB("lb", "d,I(a)", 3, LINE),
        LH("lh", "d,I(a)", 3 | 1 << 12, LINE),
        LW("lw", "d,I(a)", 3 | 2 << 12, LINE),
        LBU("lbu", "d,I(a)", 3 | 4 << 12, LINE),
        LHU("lhu", "d,I(a)", 3 | 5 << 12, LINE),
        JALR("jalr", "d,I(a)", 103, LINE),
        SB("sb", "b,S(a)", 35, LINE),
        SH("sh", "b,S(a)", 35 | 1 << 12, LINE),
        SW("sw", "b,S(a)", 35 | 2 << 12, LINE),
        LUI("lui", "d,U", 55, LINE),
        AUIPC("auipc", "d,U", 23, LINE),
        BEQ("beq", "a,b,T", 99, LINE | BRANCH),
        BNE("bne", "a,b,T", 99 | 1 << 12, LINE | BRANCH),
        BLT("blt", "a,b,T", 99 | 4 << 12, LINE | BRANCH),
        BGE("bge", "a,b,T", 99 | 5 << 12, LINE | BRANCH),
        BLTU("bltu", "a,b,T", 99 | 6 << 12, LINE | BRANCH),
        BGEU("bgeu", "a,b,T", 99 | 7 << 12, LINE | BRANCH),
        JAL("jal", "d,J", 111, LINE),
        LR("lr.w", "d,(a)", 47 | 2 << 12 | 2 << 27, LINE),
        SC("sc.w", "d,b,(a)", 47 | 2 << 12 | 3 << 27, LINE),
        AMOSWAP("amoswap.w", "d,b,(a)", 47 | 2 << 12 | 1 << 27, LINE),
        AMOADD("amoadd.w", "d,b,(a)", 47 | 2 << 12, LINE),
        AMOXOR("amoxor.w", "d,b,(a)", 47 | 2 << 12 | 4 << 27, LINE),
        AMOAND("amoand.w", "d,b,(a)", 47 | 2 << 12 | 12 << 27, LINE),
        AMOOR("amoor.w", "d,b,(a)", 47 | 2 << 12 | 8 << 27, LINE),
        AMOMIN("amomin.w", "d,b,(a)", 47 | 2 << 12 | 16 << 27, LINE),
        AMOMAX("amomax.w", "d,b,(a)", 47 | 2 << 12 | 20 << 27, LINE),
        AMOMINU("amominu.w", "d,b,(a)", 47 | 2 << 12 | 24 << 27, LINE),
        AMOMAXU("amomaxu.w", "d,b,(a)", 47 | 2 << 12 | 28 << 27, LINE),
        RDCYCLE("rdcycle", "d", 115 | 2 << 12 | 3072 << 20, LINE),
        RDTIME("rdtime", "d", 115 | 2 << 12 | 3073 << 20, LINE),
        RDINSTRET("rdinstret", "d", 115 | 2 << 12 | 3074 << 20, LINE),
        RDCYCLEH("rdcycleh", "d", 115 | 2 << 12 | 3200 << 20, LINE),
        RDTIMEH("rdtimeh", "d", 115 | 2 << 12 | 3201 << 20, LINE),
        RDINSTRETH("rdinstreth", "d", 115 | 2 << 12 | 3202 << 20, LINE),
        FENCE("fence", "", 267386895, LINE),
        FENCE_I("fence.i", "", 4111, LINE),
        ECALL("ecall", "", 115, LINE),
        EBREAK("ebreak", "", 1048691, LINE),
        C_ADDI4SPN("c.addi4spn", "p,X", 0, LINE),
        C_LW("c.lw", "p,W(q)", 2 << 13, LINE),
        C_SW("c.sw", "p,W(q)", 6 << 13, LINE),
        // Ahead of c.addi, so that its bits have this text.
        C_NOP("c.nop", "", 1, LINE),
        C_ADDI("c.addi", "d,N", 1, LINE),
        C_JAL("c.jal", "K", 1 | 1 << 13, LINE),
        C_J("c.j", "K", 1 | 5 << 13, LINE),
        C_LI("c.li", "d,N", 1 | 2 << 13, LINE),
        C_ADDI16SP("c.addi16sp", "Y", 1 | 3 << 13 | 2 << 7, LINE),
        C_LUI("c.lui", "m,M", 1 | 3 << 13, LINE),
        C_SRLI("c.srli", "q,V", 1 | 4 << 13, LINE),
        C_SRAI("c.srai", "q,V", 1 | 4 << 13 | 1 << 10, LINE),
        C_ANDI("c.andi", "q,N", 1 | 4 << 13 | 2 << 10, LINE),
        C_SUB("c.sub", "q,p", 1 | 4 << 13 | 3 << 10, LINE),
        C_XOR("c.xor", "q,p", 1 | 4 << 13 | 3 << 10 | 1 << 5, LINE),
        C_OR("c.or", "q,p", 1 | 4 << 13 | 3 << 10 | 2 << 5, LINE),
        C_AND("c.and", "q,p", 1 | 4 << 13 | 3 << 10 | 3 << 5, LINE),
        C_BEQZ("c.beqz", "q,L", 1 | 6 << 13, LINE),
        C_BNEZ("c.bnez", "q,L", 1 | 7 << 13, LINE),
        C_SLLI("c.slli", "d,V", 2, LINE),
        C_LWSP("c.lwsp", "n,P", 2 | 2 << 13, LINE),
        C_JR("c.jr", "n", 2 | 4 << 13, LINE),
        C_MV("c.mv", "d,z", 2 | 4 << 13, LINE),
        C_EBREAK("c.ebreak", "", 36866, LINE),
        C_JALR("c.jalr", "n", 2 | 4 << 13 | 1 << 12, LINE),
        C_ADD("c.add", "d,z", 2 | 4 << 13 | 1 << 12, LINE),
        C_SWSP("c.swsp", "s,Q", 2 | 6 << 13, LINE),
        NOP("nop", "", 19, 0),
        MV("mv", "d,a", 19, 0),
        NOT("not", "d,a", 19 | 4 << 12 | -1 << 20, 0),
        NEG("neg", "d,b", 51 | 32 << 25, 0),
        SEQZ("seqz", "d,a", 19 | 3 << 12 | 1 << 20, 0),
        SNEZ("snez", "d,b", 51 | 3 << 12, 0),
        SLTZ("sltz", "d,a", 51 | 2 << 12, 0),
        SGTZ("sgtz", "d,b", 51 | 2 << 12, 0),
        JR("jr", "a", 103, 0),
        RET("ret", "", 103 | 1 << 15, 0),
        CALL("call", "J", 111 | 1 << 7, JUMP),
        J("j", "J", 111, JUMP),
        TAIL("tail", "J", 111, JUMP),
        BEQZ("beqz", "a,T", 99, BRANCH | SHORT_BRANCH),
        BNEZ("bnez", "a,T", 99 | 1 << 12, BRANCH | SHORT_BRANCH),
        BGEZ("bgez", "a,T", 99 | 5 << 12, BRANCH),
        BLTZ("bltz", "a,T", 99 | 4 << 12, BRANCH),
        BLEZ("blez", "b,T", 99 | 5 << 12, BRANCH),
        BGTZ("bgtz", "b,T", 99 | 4 << 12, BRANCH),
        BGT("bgt", "b,a,T", 99 | 4 << 12, BRANCH),
        BLE("ble", "b,a,T", 99 | 5 << 12, BRANCH),
        BGTU("bgtu", "b,a,T", 99 | 6 << 12, BRANCH),
        BLEU("bleu", "b,a,T", 99 | 7 << 12, BRANCH),
        LOAD_ADDRESS("la", "d,A", 23, LA),
        LOAD_NUMBER("li", "d,A", 0, LI),
        D_TEXT(".text", "", 0, 0),
        D_DATA(".data", "", 1, 0),
        D_EQU(".equ", "", 0, 0),
        D_BYTE(".byte", "", 1, 0),
        D_HALF(".half", "", 2, 0),
        D_WORD(".word", "", 4, 0),
        D_ASCII(".ascii", "", 0, 0),
        D_ASCIZ(".asciz", "", 1, 0),
        D_SPACE(".space", "", 0, 0),
        D_ALIGN(".align", "", 0, 0);

        static final int ATOMIC = 47;
        static final int AQ = 1 << 26;
        static final int RL = 1 << 25;
        private static final Op[] ALL = values();
        // The registers' names from 1 on, so many characters for each.
        private static final int NAME_WIDTH = 3;
        private static final String NAMES =
                "ra sp gp tp t0 t1 t2 s0 s1 a0 a1 a2 a3 a4 a5 a6 a7 s2 s3 s4 s5 s6 s7 s8 s9 s10s11t3 t4 t5 t6 ";

        final String word;
        final String form;
        final int bits;
        final int sort;

        Op(String word, String form, int bits, int sort) {
            this.word = word;
            this.form = form;
            this.bits = bits;
            this.sort = sort;
        }

        /** The one whose name stands at a place of a text, or null. */
        static Op named(byte[] source, int from, int length) {
            for (int i = 0; i < ALL.length; i++) {
                if (stands(ALL[i].word, source, from, length)) {
                    return ALL[i];
                }
            }
            return null;
        }

        static boolean stands(String word, byte[] source, int from, int length) {
            if (word.length() != length || from < 0 || from + length > source.length) {
                return false;
            }
            for (int i = 0; i < length; i++) {
                if (word.charAt(i) != source[from + i]) {
                    return false;
                }
            }
            return true;
        }

        /** Bits 25 and 26 as the end of an atomic one's name says; 0 for no such end. */
        static int order(byte[] source, int from, int length) {
            if (length > 5 && stands(".aqrl", source, from + length - 5, 5)) {
                return AQ | RL;
            }
            if (length > 3 && stands(".aq", source, from + length - 3, 3)) {
                return AQ;
            }
            return length > 3 && stands(".rl", source, from + length - 3, 3) ? RL : 0;
        }

        /** The register whose name stands there, or -1. */
        static int registerAt(byte[] source, int from, int length) {
            if (stands("zero", source, from, length)) {
                return 0;
            }
            if (stands("fp", source, from, length)) {
                return 8;
            }
            if (length < 2 || length > NAME_WIDTH || from < 0 || from + length > source.length) {
                return -1;
            }
            if (source[from] == 'x') {
                return numbered(source, from + 1, length - 1);
            }
            for (int r = 1; r < 32; r++) {
                if (isNamed(r, source, from, length)) {
                    return r;
                }
            }
            return -1;
        }

        private static int numbered(byte[] source, int from, int length) {
            int n = 0;
            for (int i = 0; i < length; i++) {
                int digit = source[from + i] - '0';
                if (digit < 0 || digit > 9) {
                    return -1;
                }
                n = n * 10 + digit;
            }
            return n > 31 || length == 2 && n < 10 ? -1 : n;
        }

        private static boolean isNamed(int r, byte[] source, int from, int length) {
            for (int i = 0; i < NAME_WIDTH; i++) {
                char due = NAMES.charAt((r - 1) * NAME_WIDTH + i);
                if (due != (i < length ? source[from + i] : ' ')) {
                    return false;
                }
            }
            return true;
        }

        /** Whether an operand is an e that is told as an offset. */
        static boolean isTarget(char letter) {
            return letter == 'T' || letter == 'J' || letter == 'K' || letter == 'L';
        }

        /** Whether an operand may be this. */
        static boolean fits(char letter, int v) {
            switch (letter) {
                case 'n':
                case 'z':
                    return v != 0;
                case 'm':
                    return v != 2;
                case 'p':
                case 'q':
                    return v >= 8 && v <= 15;
                case 'I':
                case 'S':
                    return v >= -2048 && v <= 2047;
                case 'H':
                case 'V':
                    return v >= 0 && v <= 31;
                case 'U':
                    return v >= 0 && v <= 1048575;
                case 'T':
                    return v >= -4096 && v <= 4094 && (v & 1) == 0;
                case 'J':
                    return v >= -1048576 && v <= 1048574 && (v & 1) == 0;
                case 'K':
                    return v >= -2048 && v <= 2046 && (v & 1) == 0;
                case 'L':
                    return v >= -256 && v <= 254 && (v & 1) == 0;
                case 'N':
                    return v >= -32 && v <= 31;
                case 'M':
                    return v >= -32 && v <= 31 && v != 0;
                case 'X':
                    return v >= 4 && v <= 1020 && (v & 3) == 0;
                case 'W':
                    return v >= 0 && v <= 124 && (v & 3) == 0;
                case 'Y':
                    return v >= -512 && v <= 496 && (v & 15) == 0 && v != 0;
                case 'P':
                case 'Q':
                    return v >= 0 && v <= 252 && (v & 3) == 0;
                default:
                    return true;
            }
        }

        /** The bits that an operand has in an instruction. */
        static int placed(char letter, int v) {
            switch (letter) {
                case 'd':
                case 'n':
                case 'm':
                    return v << 7;
                case 'a':
                    return v << 15;
                case 'b':
                    return v << 20;
                case 's':
                case 'z':
                    return v << 2;
                case 'p':
                    return (v & 7) << 2;
                case 'q':
                    return (v & 7) << 7;
                case 'I':
                    return v << 20;
                case 'H':
                    return (v & 31) << 20;
                case 'S':
                    return part(v, 5, 7, 25) | part(v, 0, 5, 7);
                case 'U':
                    return v << 12;
                case 'T':
                    return part(v, 12, 1, 31) | part(v, 5, 6, 25) | part(v, 1, 4, 8) | part(v, 11, 1, 7);
                case 'J':
                    return part(v, 20, 1, 31) | part(v, 1, 10, 21) | part(v, 11, 1, 20) | part(v, 12, 8, 12);
                default:
                    return placedShort(letter, v);
            }
        }

        private static int placedShort(char letter, int v) {
            switch (letter) {
                case 'K':
                    return part(v, 11, 1, 12) | part(v, 4, 1, 11) | part(v, 8, 2, 9) | part(v, 10, 1, 8)
                            | part(v, 6, 1, 7) | part(v, 7, 1, 6) | part(v, 1, 3, 3) | part(v, 5, 1, 2);
                case 'L':
                    return part(v, 8, 1, 12) | part(v, 3, 2, 10) | part(v, 6, 2, 5) | part(v, 1, 2, 3)
                            | part(v, 5, 1, 2);
                case 'N':
                case 'M':
                    return part(v, 5, 1, 12) | part(v, 0, 5, 2);
                case 'X':
                    return part(v, 4, 2, 11) | part(v, 6, 4, 7) | part(v, 2, 1, 6) | part(v, 3, 1, 5);
                case 'W':
                    return part(v, 3, 3, 10) | part(v, 2, 1, 6) | part(v, 6, 1, 5);
                case 'Y':
                    return part(v, 9, 1, 12) | part(v, 4, 1, 6) | part(v, 6, 1, 5) | part(v, 7, 2, 3)
                            | part(v, 5, 1, 2);
                case 'V':
                    return part(v, 0, 5, 2);
                case 'P':
                    return part(v, 5, 1, 12) | part(v, 2, 3, 4) | part(v, 6, 2, 2);
                case 'Q':
                    return part(v, 2, 4, 9) | part(v, 6, 2, 7);
                default:
                    return 0;
            }
        }

        /** So many bits of v, from one on, moved to another place. */
        private static int part(int v, int low, int width, int to) {
            return (v >> low & (1 << width) - 1) << to;
        }

        /** The operand that an instruction's bits have. */
        private static int taken(char letter, int all) {
            switch (letter) {
                case 'd':
                case 'n':
                case 'm':
                    return all >> 7 & 31;
                case 'a':
                    return all >> 15 & 31;
                case 'b':
                    return all >> 20 & 31;
                case 's':
                case 'z':
                    return all >> 2 & 31;
                case 'p':
                    return 8 + (all >> 2 & 7);
                case 'q':
                    return 8 + (all >> 7 & 7);
                default:
                    return gathered(letter, all);
            }
        }

        /** Placing goes bit by bit, so each bit of an e is found again where it is placed alone. */
        private static int gathered(char letter, int all) {
            int v = 0;
            int highest = 0;
            for (int k = 0; k <= 20; k++) {
                int place = placed(letter, 1 << k);
                if (place != 0) {
                    highest = k;
                    v |= (all & place) != 0 ? 1 << k : 0;
                }
            }
            boolean signed = fits(letter, -16);
            return signed && (v >> highest & 1) != 0 ? v - (2 << highest) : v;
        }

        /** The text of an instruction's bits. */
        static void spell(StringBuilder out, int all) {
            for (int i = 0; i < ALL.length; i++) {
                if ((ALL[i].sort & LINE) != 0 && ALL[i].makes(all)) {
                    ALL[i].write(out, all);
                    return;
                }
            }
            out.append((all & 3) == 3 ? ".word " : ".half ");
            // The bits are unsigned, and only an int can be appended.
            long unsigned = all & 0xffffffffL;
            if (unsigned > 9) {
                out.append((int) (unsigned / 10));
            }
            out.append((int) (unsigned % 10));
        }

        private boolean makes(int all) {
            if ((all & 3) != (bits & 3) || (all & 3) == 3 && (all & 127) != (bits & 127)) {
                return false;
            }
            int made = (bits & 127) == ATOMIC ? bits | all & (AQ | RL) : bits;
            for (int i = 0; i < form.length(); i++) {
                char letter = form.charAt(i);
                if (letter >= 'A') {
                    int v = taken(letter, all);
                    if (!fits(letter, v)) {
                        return false;
                    }
                    made |= placed(letter, v);
                }
            }
            return made == all;
        }

        private void write(StringBuilder out, int all) {
            out.append(word);
            if ((bits & 127) == ATOMIC && (all & (AQ | RL)) != 0) {
                out.append((all & RL) == 0 ? ".aq" : (all & AQ) == 0 ? ".rl" : ".aqrl");
            }
            for (int i = 0; i < form.length(); i++) {
                char letter = form.charAt(i);
                if (i == 0) {
                    out.append(' ');
                }
                if (letter < 'A') {
                    out.append(letter == ',' ? ", " : letter == '(' ? "(" : ")");
                } else if (letter >= 'a') {
                    writeRegister(out, taken(letter, all));
                } else {
                    int v = taken(letter, all);
                    out.append(!isTarget(letter) ? "" : v < 0 ? "." : ".+");
                    out.append(v);
                }
            }
        }

        private static void writeRegister(StringBuilder out, int r) {
            if (r == 0) {
                out.append("zero");
            }
            for (int i = 0; i < NAME_WIDTH && r > 0 && r < 32; i++) {
                char c = NAMES.charAt((r - 1) * NAME_WIDTH + i);
                if (c != ' ') {
                    out.append(c);
                }
            }
        }
    }

    /** Reads a program's text: its tokens, names and expressions. */
    private static final class Reader {
        static final int END = 0;
        static final int NAME = 1;
        static final int NUMBER = 2;
        static final int NEAR = 3;
        static final int TEXT = 4;
        static final int SIGN = 5;
        static final int BAD = 6;
        // The signs of two characters.
        static final int LEFT = 256;
        static final int RIGHT = 257;
        private static final int LONGEST_NAME = 31;

        // Of a name.
        static final int STARTS = 0;
        static final int LENGTH = 1;
        static final int MEANS = 2;
        static final int WORTH = 3;
        static final int CHAIN = 4;
        static final int NAME_ROW = 5;
        // What a name means.
        static final int UNKNOWN = 0;
        static final int CONSTANT = 1;
        static final int LABEL = 2;
        // Of a label: the statement it stands before, its section and address, the next near one of its digit.
        static final int STATEMENT = 0;
        static final int SECTION = 1;
        static final int PLACE = 2;
        static final int NEXT = 3;
        static final int NAMED = 4;
        static final int LABEL_ROW = 5;
        // A name, or a label, and what ends it take two bytes at least.
        private static final int MOST = TAPE / 2 + 1;

        // What is done in an expression's code; from HI on these wait for a ) when they are on the stack.
        private static final int MULTIPLY = 1;
        private static final int DIVIDE = 2;
        private static final int REMAINDER = 3;
        private static final int ADD = 4;
        private static final int SUBTRACT = 5;
        private static final int SHIFT_LEFT = 6;
        private static final int SHIFT_RIGHT = 7;
        private static final int AND = 8;
        private static final int XOR = 9;
        private static final int OR = 10;
        private static final int NEGATE = 11;
        private static final int INVERT = 12;
        private static final int HI = 13;
        private static final int LO = 14;
        private static final int OPEN = 15;
        private static final int LITERAL = 16;
        private static final int NAMED_VALUE = 17;
        private static final int HERE = 18;
        private static final int AHEAD = 19;
        private static final int BEHIND = 20;
        private static final int STOP = 21;
        private static final int[] RANK = {0, 6, 6, 6, 5, 5, 4, 4, 3, 2, 1, 7, 7};

        // What comes next in an expression.
        private static final int OPERAND = 0;
        private static final int OPERATOR = 1;
        private static final int HALF_NAME = 2;
        private static final int HIGH_OPEN = 3;
        private static final int LOW_OPEN = 4;
        private static final int DONE = 5;
        private static final int WRONG = 6;

        byte[] source = new byte[0];
        int at;
        int stop;
        int kind;
        int from;
        int number;
        private final int[] code = new int[TAPE + 64];
        private final int[] argument = new int[TAPE + 64];
        int codes;
        private final int[] stack = new int[TAPE + 64];
        private int top;
        private int state;
        final int[] name = new int[MOST * NAME_ROW];
        private int names;
        private final int[] bucket = new int[256];
        // The first and the latest near label of each digit, each 1 + its number.
        private final int[] near = new int[20];
        final int[] label = new int[MOST * LABEL_ROW];
        int labels;
        boolean fixed;
        int trouble;

        void open(byte[] row) {
            source = row;
            codes = 0;
            names = 0;
            labels = 0;
            Arrays.fill(bucket, 0);
            Arrays.fill(near, 0);
        }

        void startLine(int begin, int ending) {
            at = begin;
            stop = Math.min(ending, source.length);
            next();
        }

        void next() {
            while (at < stop && (source[at] == ' ' || source[at] == '\t')) {
                at++;
            }
            from = at;
            if (at >= stop || source[at] == '#') {
                kind = END;
                return;
            }
            int c = source[at];
            while (at < stop && isInName(source[at])) {
                at++;
            }
            if (c >= '0' && c <= '9') {
                readNumber();
            } else if (at > from) {
                kind = at - from <= LONGEST_NAME ? NAME : BAD;
            } else if (c == '"') {
                readText();
            } else if (c == '\'') {
                readCharacter();
            } else {
                readSign(c);
            }
        }

        private static boolean isInName(int c) {
            return c >= 'a' && c <= 'z' || c >= 'A' && c <= 'Z' || c >= '0' && c <= '9'
                    || c == '_' || c == '.' || c == '$';
        }

        /** All characters of names that stand together must be of the number. */
        private void readNumber() {
            int length = at - from;
            int second = length > 1 ? source[from + 1] : 0;
            if (length == 2 && (second == 'f' || second == 'b')) {
                kind = NEAR;
                number = source[from] - '0';
                return;
            }
            boolean hex = length > 2 && source[from] == '0' && second == 'x';
            boolean binary = length > 2 && source[from] == '0' && second == 'b';
            int base = hex ? 16 : binary ? 2 : 10;
            long n = 0;
            kind = NUMBER;
            for (int i = hex || binary ? from + 2 : from; i < at; i++) {
                int c = source[i];
                int digit = c - '0';
                if (c > '9') {
                    // A capital letter and its small one differ in this bit alone.
                    int letter = c | 32;
                    digit = letter >= 'a' && letter <= 'f' ? letter - 'a' + 10 : base;
                }
                n = n * base + digit;
                if (digit < 0 || digit >= base || n > 0xffffffffL) {
                    kind = BAD;
                    return;
                }
            }
            number = (int) n;
        }

        /** What the character at i (or the two with a \) stands for in such quotes, or -1. */
        int character(int i, int quote) {
            if (i < 0 || i >= stop) {
                return -1;
            }
            int c = source[i];
            if (c != '\\') {
                return c == quote ? -1 : c;
            }
            int escaped = i + 1 < stop ? source[i + 1] : 0;
            switch (escaped) {
                case 'n':
                    return '\n';
                case 't':
                    return '\t';
                case '0':
                    return 0;
                case '\\':
                case '\'':
                case '"':
                    return escaped;
                default:
                    return -1;
            }
        }

        int width(int i) {
            return i >= 0 && i < stop && source[i] == '\\' ? 2 : 1;
        }

        private void readCharacter() {
            int c = character(from + 1, '\'');
            int behind = from + 1 + width(from + 1);
            boolean closed = behind < stop && source[behind] == '\'';
            boolean alone = behind + 1 >= stop || !isInName(source[behind + 1]);
            kind = c >= 0 && closed && alone ? NUMBER : BAD;
            number = c;
            at = Math.min(behind + 1, stop);
        }

        private void readText() {
            int i = from + 1;
            while (i < stop && character(i, '"') >= 0) {
                i += width(i);
            }
            kind = i < stop && source[i] == '"' ? TEXT : BAD;
            at = Math.min(i + 1, stop);
        }

        private void readSign(int c) {
            kind = SIGN;
            number = c;
            at++;
            if (c == '<' || c == '>') {
                kind = at < stop && source[at] == c ? SIGN : BAD;
                number = c == '<' ? LEFT : RIGHT;
                at = Math.min(at + 1, stop);
            } else if (":,()+-*/%&|^~".indexOf((char) c) < 0) {
                kind = BAD;
            }
        }

        boolean isSign(int c) {
            return kind == SIGN && number == c;
        }

        /** The number of the name that stands there; one that was not met yet is unknown. */
        int nameAt(int begin, int length) {
            int hash = 0;
            for (int i = 0; i < length && begin + i < source.length; i++) {
                hash = hash * 31 + source[begin + i];
            }
            hash = (hash ^ hash >> 8) & 255;
            int id = bucket[hash] - 1;
            for (int left = names; left > 0 && id >= 0; left--) {
                int other = name[id * NAME_ROW + STARTS];
                boolean same = name[id * NAME_ROW + LENGTH] == length;
                for (int i = 0; same && i < length; i++) {
                    same = source[other + i] == source[begin + i];
                }
                if (same) {
                    return id;
                }
                id = name[id * NAME_ROW + CHAIN] - 1;
            }
            if (names < MOST - 1) {
                names++;
            }
            id = names - 1;
            name[id * NAME_ROW + STARTS] = begin;
            name[id * NAME_ROW + LENGTH] = length;
            name[id * NAME_ROW + MEANS] = UNKNOWN;
            name[id * NAME_ROW + CHAIN] = bucket[hash];
            bucket[hash] = id + 1;
            return id;
        }

        boolean isDefined(int id) {
            return name[id * NAME_ROW + MEANS] != UNKNOWN;
        }

        void define(int id, int means, int worth) {
            name[id * NAME_ROW + MEANS] = means;
            name[id * NAME_ROW + WORTH] = worth;
        }

        /** A label before a statement; digit -1 for one with a name. Answers its number. */
        int addLabel(int statement, int section, int digit) {
            int n = Math.min(labels, MOST - 1);
            labels = n + 1;
            label[n * LABEL_ROW + STATEMENT] = statement;
            label[n * LABEL_ROW + SECTION] = section;
            label[n * LABEL_ROW + PLACE] = 0;
            label[n * LABEL_ROW + NEXT] = 0;
            label[n * LABEL_ROW + NAMED] = digit < 0 ? 1 : 0;
            if (digit >= 0 && digit <= 9) {
                int latest = near[10 + digit];
                if (latest == 0) {
                    near[digit] = n + 1;
                } else {
                    label[(latest - 1) * LABEL_ROW + NEXT] = n + 1;
                }
                near[10 + digit] = n + 1;
            }
            return n;
        }

        boolean standsBefore(int n, int statement) {
            return label[n * LABEL_ROW + STATEMENT] == statement;
        }

        /** A label's address, by where its section goes on. */
        void place(int n, int text, int data) {
            label[n * LABEL_ROW + PLACE] = label[n * LABEL_ROW + SECTION] == 0 ? text : data;
        }

        /** Reads an e from the current token on: where its code begins, or -1 where a token can't be. */
        int sum() {
            int start = codes;
            top = 0;
            fixed = true;
            state = OPERAND;
            for (int left = source.length; left >= 0 && state != DONE && state != WRONG; left--) {
                if (state == OPERAND) {
                    takeOperand();
                } else if (state == OPERATOR) {
                    takeOperator();
                } else {
                    takeHalf();
                }
                if (state != DONE && state != WRONG) {
                    next();
                }
            }
            emit(STOP, 0);
            return state == DONE ? start : -1;
        }

        private void takeOperand() {
            state = OPERATOR;
            if (kind == NUMBER) {
                emit(LITERAL, number);
            } else if (kind == NAME && at - from == 1 && source[from] == '.') {
                fixed = false;
                emit(HERE, 0);
            } else if (kind == NAME) {
                int id = nameAt(from, at - from);
                fixed = fixed && name[id * NAME_ROW + MEANS] == CONSTANT;
                emit(NAMED_VALUE, id);
            } else if (kind == NEAR) {
                takeNear();
            } else if (kind == SIGN && (number == '-' || number == '~' || number == '(')) {
                push(number == '-' ? NEGATE : number == '~' ? INVERT : OPEN);
                state = OPERAND;
            } else {
                state = isSign('%') ? HALF_NAME : WRONG;
            }
        }

        private void takeNear() {
            fixed = false;
            int latest = near[10 + number] - 1;
            if (source[from + 1] == 'b') {
                emit(BEHIND, latest);
            } else {
                // Without one so far, the digit's first one will be the next: told as below 0.
                emit(AHEAD, latest >= 0 ? latest : -1 - number);
            }
        }

        /** %hi and %lo are two tokens, and a ( must be behind them. */
        private void takeHalf() {
            if (state != HALF_NAME) {
                push(state == HIGH_OPEN ? HI : LO);
                state = isSign('(') ? OPERAND : WRONG;
            } else if (kind == NAME && Op.stands("hi", source, from, at - from)) {
                state = HIGH_OPEN;
            } else {
                state = kind == NAME && Op.stands("lo", source, from, at - from) ? LOW_OPEN : WRONG;
            }
        }

        private void takeOperator() {
            int sign = kind == SIGN ? binary(number) : 0;
            if (sign != 0) {
                popTo(RANK[sign]);
                push(sign);
                state = OPERAND;
                return;
            }
            popTo(0);
            if (top == 0) {
                state = DONE;
            } else if (isSign(')')) {
                top--;
                if (stack[top] != OPEN) {
                    emit(stack[top], 0);
                }
            } else {
                state = WRONG;
            }
        }

        private static int binary(int sign) {
            switch (sign) {
                case '*':
                    return MULTIPLY;
                case '/':
                    return DIVIDE;
                case '%':
                    return REMAINDER;
                case '+':
                    return ADD;
                case '-':
                    return SUBTRACT;
                case LEFT:
                    return SHIFT_LEFT;
                case RIGHT:
                    return SHIFT_RIGHT;
                case '&':
                    return AND;
                case '^':
                    return XOR;
                case '|':
                    return OR;
                default:
                    return 0;
            }
        }

        private void push(int what) {
            if (top < stack.length) {
                stack[top] = what;
                top++;
            }
        }

        private void popTo(int rank) {
            while (top > 0 && stack[top - 1] < HI && RANK[stack[top - 1]] >= rank) {
                top--;
                emit(stack[top], 0);
            }
        }

        private void emit(int what, int with) {
            if (codes < code.length) {
                code[codes] = what;
                argument[codes] = with;
                codes++;
            }
        }

        /** The value of an e in a statement that begins here; trouble is 8 or 9 when it has none, else 0. */
        int evaluate(int start, int here) {
            trouble = 0;
            top = 0;
            for (int i = Math.max(0, start); i < codes && code[i] != STOP; i++) {
                if (code[i] >= LITERAL) {
                    push(operand(code[i], argument[i], here));
                } else if (code[i] >= NEGATE && top > 0) {
                    stack[top - 1] = single(code[i], stack[top - 1]);
                } else if (top > 1) {
                    top--;
                    stack[top - 1] = joined(code[i], stack[top - 1], stack[top]);
                }
            }
            return top > 0 ? stack[0] : 0;
        }

        /** Where the code of the e behind this one begins. */
        int behind(int start) {
            int i = Math.max(0, start);
            while (i < codes && code[i] != STOP) {
                i++;
            }
            return i + 1;
        }

        private int operand(int what, int with, int here) {
            if (what == LITERAL) {
                return with;
            }
            if (what == HERE) {
                return here;
            }
            int target;
            if (what == NAMED_VALUE) {
                int means = name[with * NAME_ROW + MEANS];
                if (means == CONSTANT) {
                    return name[with * NAME_ROW + WORTH];
                }
                target = means == LABEL ? name[with * NAME_ROW + WORTH] : -1;
            } else if (what == BEHIND) {
                target = with;
            } else {
                target = (with < 0 ? near[-1 - with] : label[with * LABEL_ROW + NEXT]) - 1;
            }
            if (target < 0) {
                trouble = 8;
                return 0;
            }
            return label[target * LABEL_ROW + PLACE];
        }

        private static int single(int what, int v) {
            switch (what) {
                case NEGATE:
                    return -v;
                case INVERT:
                    return ~v;
                case HI:
                    return high(v);
                default:
                    return low(v);
            }
        }

        static int high(int v) {
            return v + 2048 >>> 12;
        }

        static int low(int v) {
            return v << 20 >> 20;
        }

        private int joined(int what, int a, int b) {
            switch (what) {
                case MULTIPLY:
                    return a * b;
                case DIVIDE:
                case REMAINDER:
                    if (b == 0) {
                        trouble = trouble == 0 ? 9 : trouble;
                    }
                    return b == 0 ? 0 : what == DIVIDE ? a / b : a % b;
                case ADD:
                    return a + b;
                case SUBTRACT:
                    return a - b;
                case SHIFT_LEFT:
                    return a << b;
                case SHIFT_RIGHT:
                    return a >> b;
                case AND:
                    return a & b;
                case XOR:
                    return a ^ b;
                default:
                    return a | b;
            }
        }
    }

    /** Makes a program of a text: reads its lines, finds all addresses, then puts the bytes. */
    private static final class Assembler {
        // Of a statement.
        private static final int LINE_OF = 0;
        private static final int SECTION = 1;
        private static final int PLACE = 2;
        private static final int LENGTH = 3;
        private static final int KIND = 4;
        private static final int BITS = 5;
        private static final int CODE = 6;
        private static final int LETTER = 7;
        private static final int ROW = 8;
        // The shortest statements have three characters, and the end of their line.
        static final int MOST = TAPE / 4 + 2;

        // Kinds of statements: with a fixed length, with one that grows, and the rest.
        private static final int PLAIN = 0;
        private static final int HOP = 1;
        private static final int FORK = 2;
        private static final int ADDRESS = 3;
        private static final int NUMBER = 4;
        private static final int LIST = 5;
        private static final int TEXTS = 6;
        private static final int SPACE = 7;
        private static final int ALIGN = 8;

        private static final int SECTION_STEP = 1024;
        private static final int LARGEST_SPACE = 32768;
        private static final int LARGEST_ALIGN = 10;
        private static final int OPPOSITE = 1 << 12;
        private static final int JAL_ZERO = 111;
        private static final int SHORT_JUMP = 1 | 5 << 13;
        private static final int SHORT_CALL = 1 | 1 << 13;
        private static final int SHORT_BRANCH_BITS = 1 | 6 << 13;
        private static final int SHORT_LI = 1 | 2 << 13;
        private static final int ADDI_BITS = 19;
        private static final int LUI_BITS = 55;

        private final Reader reader = new Reader();
        private final int[] statement = new int[MOST * ROW];
        private int statements;
        private final byte[] letters = new byte[TAPE + 64];
        private int lettersUsed;
        private int fault;
        private int line;
        private int section;
        private int order;
        private int constants;
        private int textSize;
        private int dataStart;
        private int size;

        /** 0, and the program is made; or a fault + 16 * its line. */
        int make(byte[] source, int length, Program out) {
            start(source, length);
            int from = 0;
            for (int i = 0; i <= length && fault == 0; i++) {
                if (i == length || source[i] == '\n') {
                    line++;
                    Op op = readLine(from, i);
                    if (fault == 0 && op != null) {
                        readStatement(op);
                    }
                    from = i + 1;
                }
            }
            if (fault == 0) {
                layOut();
                if (size > LARGEST_SPACE) {
                    return 7;
                }
                putAll(out);
            }
            if (fault == 0) {
                describe(out);
            }
            return fault == 0 ? 0 : fault + 16 * line;
        }

        private void start(byte[] source, int length) {
            reader.open(source);
            statements = 0;
            lettersUsed = 0;
            fault = 0;
            line = 0;
            section = 0;
            constants = 0;
            int current = 1;
            for (int i = 0; i < length && fault == 0; i++) {
                int c = source[i];
                if (c == '\n') {
                    current++;
                } else if (c != '\t' && (c < 32 || c > 126)) {
                    blame(1);
                    line = current;
                }
            }
        }

        private void blame(int what) {
            if (fault == 0) {
                fault = what;
            }
        }

        /** Reads a line's labels and the name of its statement; null when there is none. */
        private Op readLine(int from, int stop) {
            reader.startLine(from, stop);
            for (int left = stop - from; left >= 0 && fault == 0 && reader.kind != Reader.END; left--) {
                int kind = reader.kind;
                int begin = reader.from;
                int length = reader.at - begin;
                int digit = kind == Reader.NUMBER && length == 1 ? reader.number : -1;
                if (kind != Reader.NAME && digit < 0) {
                    blame(1);
                    return null;
                }
                reader.next();
                if (!reader.isSign(':')) {
                    return statementNamed(begin, length, digit);
                }
                readLabel(begin, length, digit);
                reader.next();
            }
            return null;
        }

        private void readLabel(int begin, int length, int digit) {
            if (digit >= 0) {
                reader.addLabel(statements, section, digit);
                return;
            }
            int id = reader.nameAt(begin, length);
            if (Op.registerAt(reader.source, begin, length) >= 0 || reader.isDefined(id)) {
                blame(4);
                return;
            }
            reader.define(id, Reader.LABEL, reader.addLabel(statements, section, -1));
        }

        private Op statementNamed(int begin, int length, int digit) {
            if (digit >= 0) {
                blame(1);
                return null;
            }
            order = 0;
            Op op = Op.named(reader.source, begin, length);
            if (op == null) {
                order = Op.order(reader.source, begin, length);
                int end = order == (Op.AQ | Op.RL) ? 5 : 3;
                op = order == 0 ? null : Op.named(reader.source, begin, length - end);
                if (op == null || (op.bits & 127) != Op.ATOMIC || op.sort != LINE) {
                    op = null;
                    blame(2);
                }
            }
            return op;
        }

        private void readStatement(Op op) {
            switch (op) {
                case D_TEXT:
                case D_DATA:
                    section = op.bits;
                    break;
                case D_EQU:
                    readConstant();
                    break;
                case D_BYTE:
                case D_HALF:
                case D_WORD:
                    readList(op.bits);
                    break;
                case D_ASCII:
                case D_ASCIZ:
                    readTexts(op.bits == 1);
                    break;
                case D_SPACE:
                    add(SPACE, fixed(reader.sum(), 0, LARGEST_SPACE), 0, -1);
                    break;
                case D_ALIGN:
                    add(ALIGN, 0, 1 << fixed(reader.sum(), 0, LARGEST_ALIGN), -1);
                    break;
                case JAL:
                    readInstruction(isRegister() ? op : Op.CALL);
                    break;
                case JALR:
                    readJump();
                    break;
                default:
                    readInstruction(op);
                    break;
            }
            if (fault == 0 && reader.kind != Reader.END) {
                blame(1);
            }
        }

        private void readConstant() {
            if (reader.kind != Reader.NAME) {
                blame(1);
                return;
            }
            int length = reader.at - reader.from;
            int id = reader.nameAt(reader.from, length);
            if (Op.registerAt(reader.source, reader.from, length) >= 0 || reader.isDefined(id)) {
                blame(4);
                return;
            }
            reader.next();
            expect(',');
            int start = fault == 0 ? reader.sum() : 0;
            int worth = fixed(start, Integer.MIN_VALUE, Integer.MAX_VALUE);
            if (fault == 0) {
                reader.define(id, Reader.CONSTANT, worth);
                constants++;
            }
        }

        private void readList(int each) {
            int first = reader.codes;
            int n = 0;
            for (int left = reader.source.length; left >= 0 && fault == 0; left--) {
                if (reader.sum() < 0) {
                    blame(1);
                }
                n++;
                if (!reader.isSign(',')) {
                    break;
                }
                reader.next();
            }
            add(LIST, n * each, each, first);
        }

        private void readTexts(boolean ended) {
            int first = lettersUsed;
            for (int left = reader.source.length; left >= 0 && fault == 0; left--) {
                if (reader.kind != Reader.TEXT) {
                    blame(1);
                    return;
                }
                keepText();
                if (ended) {
                    keepLetter(0);
                }
                reader.next();
                if (!reader.isSign(',')) {
                    break;
                }
                reader.next();
            }
            add(TEXTS, lettersUsed - first, 0, first);
        }

        private void keepText() {
            int i = reader.from + 1;
            while (i < reader.at - 1) {
                keepLetter(reader.character(i, '"'));
                i += reader.width(i);
            }
        }

        private void keepLetter(int c) {
            if (lettersUsed < letters.length) {
                letters[lettersUsed] = (byte) c;
                lettersUsed++;
            }
        }

        /** The value of the e that was read just now, which must be fixed, and from least to most. */
        private int fixed(int start, int least, int most) {
            if (fault != 0) {
                return 0;
            }
            if (start < 0 || !reader.fixed) {
                blame(start < 0 ? 1 : 5);
                return 0;
            }
            int v = reader.evaluate(start, 0);
            if (reader.trouble != 0 || v < least || v > most) {
                blame(reader.trouble != 0 ? reader.trouble : 6);
                return 0;
            }
            return v;
        }

        private void expect(int sign) {
            if (fault == 0 && !reader.isSign(sign)) {
                blame(1);
            }
            if (fault == 0) {
                reader.next();
            }
        }

        private boolean isRegister() {
            return reader.kind == Reader.NAME
                    && Op.registerAt(reader.source, reader.from, reader.at - reader.from) >= 0;
        }

        private void readInstruction(Op op) {
            int bits = op.bits | order;
            int code = -1;
            char letter = 0;
            for (int i = 0; i < op.form.length() && fault == 0; i++) {
                char part = op.form.charAt(i);
                if (part < 'A') {
                    expect(part);
                } else if (part >= 'a') {
                    bits |= readRegister(part);
                } else {
                    letter = part;
                    code = reader.sum();
                    if (code < 0) {
                        blame(1);
                    }
                }
            }
            if ((op.sort & LI) != 0) {
                addNumber(bits >> 7 & 31, fixed(code, Integer.MIN_VALUE, Integer.MAX_VALUE));
            } else if (fault == 0) {
                addInstruction(op, bits, code, letter);
            }
        }

        /** jalr has a form with one operand, too; which one it is shows behind the first register. */
        private void readJump() {
            int first = readRegister('d');
            if (fault == 0 && reader.kind == Reader.END) {
                add(PLAIN, 4, Op.JALR.bits | first << 8 | 1 << 7, -1);
                return;
            }
            expect(',');
            int code = fault == 0 ? reader.sum() : 0;
            if (code < 0) {
                blame(1);
            }
            expect('(');
            int bits = Op.JALR.bits | first | readRegister('a');
            expect(')');
            add(PLAIN, 4, bits, code);
            setLetter('I');
        }

        /** A register's bits. */
        private int readRegister(char letter) {
            if (fault != 0) {
                return 0;
            }
            if (reader.kind == Reader.END || reader.kind == Reader.BAD) {
                blame(1);
                return 0;
            }
            int length = reader.at - reader.from;
            int r = reader.kind == Reader.NAME ? Op.registerAt(reader.source, reader.from, length) : -1;
            if (r < 0 || !Op.fits(letter, r)) {
                blame(3);
                return 0;
            }
            reader.next();
            return Op.placed(letter, r);
        }

        private void addInstruction(Op op, int bits, int code, char letter) {
            if ((op.sort & JUMP) != 0) {
                add(HOP, 2, bits, code);
            } else if ((op.sort & BRANCH) != 0) {
                int r = bits >> 15 & 31;
                add(FORK, (op.sort & SHORT_BRANCH) != 0 && r >= 8 && r <= 15 ? 2 : 4, bits, code);
            } else if ((op.sort & LA) != 0) {
                add(ADDRESS, 8, bits, code);
            } else {
                add(PLAIN, (bits & 3) == 3 ? 4 : 2, bits, code);
                setLetter(letter);
            }
        }

        private void addNumber(int d, int v) {
            int length = 8;
            if (Op.fits('N', v) && d != 0) {
                length = 2;
            } else if (Op.fits('I', v) || Reader.low(v) == 0) {
                length = 4;
            }
            add(NUMBER, length, d, v);
        }

        private void add(int kind, int length, int bits, int code) {
            if (fault != 0 || statements >= MOST) {
                return;
            }
            int s = statements * ROW;
            statement[s + LINE_OF] = line;
            statement[s + SECTION] = section;
            statement[s + PLACE] = 0;
            statement[s + LENGTH] = length;
            statement[s + KIND] = kind;
            statement[s + BITS] = bits;
            statement[s + CODE] = code;
            statement[s + LETTER] = 0;
            statements++;
        }

        private void setLetter(char letter) {
            if (fault == 0 && statements > 0) {
                statement[(statements - 1) * ROW + LETTER] = letter;
            }
        }

        /** Each statement grows twice at most, so this ends. */
        private void layOut() {
            boolean again = true;
            for (int left = 2 * statements; again && left >= 0; left--) {
                findAddresses();
                again = grow();
            }
        }

        private void findAddresses() {
            int text = 0;
            int data = 0;
            int labelled = 0;
            for (int i = 0; i <= statements; i++) {
                while (labelled < reader.labels && reader.standsBefore(labelled, i)) {
                    reader.place(labelled, text, data);
                    labelled++;
                }
                if (i < statements) {
                    int s = i * ROW;
                    int place = statement[s + SECTION] == 0 ? text : data;
                    statement[s + PLACE] = place;
                    if (statement[s + KIND] == ALIGN) {
                        statement[s + LENGTH] = -place & statement[s + BITS] - 1;
                    }
                    if (statement[s + SECTION] == 0) {
                        text += statement[s + LENGTH];
                    } else {
                        data += statement[s + LENGTH];
                    }
                }
            }
            textSize = text;
            dataStart = (text + SECTION_STEP - 1) / SECTION_STEP * SECTION_STEP;
            size = data > 0 ? dataStart + data : text;
            moveData();
        }

        /** Sections begin at multiples of 1024, so no .align changes when the data moves behind the text. */
        private void moveData() {
            for (int i = 0; i < statements; i++) {
                if (statement[i * ROW + SECTION] == 1) {
                    statement[i * ROW + PLACE] += dataStart;
                }
            }
            for (int i = 0; i < reader.labels; i++) {
                if (reader.label[i * Reader.LABEL_ROW + Reader.SECTION] == 1) {
                    reader.label[i * Reader.LABEL_ROW + Reader.PLACE] += dataStart;
                }
            }
        }

        /** All whose offset does not fit, and that can be longer, are so: whether there was one. */
        private boolean grow() {
            boolean grown = false;
            for (int i = 0; i < statements; i++) {
                int s = i * ROW;
                int kind = statement[s + KIND];
                int length = statement[s + LENGTH];
                if (kind == HOP && length < 4 || kind == FORK && length < 8) {
                    int offset = reader.evaluate(statement[s + CODE], statement[s + PLACE]) - statement[s + PLACE];
                    if (reader.trouble == 0 && !Op.fits(growingLetter(kind, length), offset)) {
                        statement[s + LENGTH] = length * 2;
                        grown = true;
                    }
                }
            }
            return grown;
        }

        private static char growingLetter(int kind, int length) {
            if (kind == HOP) {
                return length == 2 ? 'K' : 'J';
            }
            return length == 2 ? 'L' : length == 4 ? 'T' : 'J';
        }

        private void putAll(Program out) {
            Arrays.fill(out.image, (byte) 0);
            for (int i = 0; i < statements && fault == 0; i++) {
                int s = i * ROW;
                line = statement[s + LINE_OF];
                switch (statement[s + KIND]) {
                    case PLAIN:
                        putPlain(out, s);
                        break;
                    case HOP:
                    case FORK:
                        putGrown(out, s);
                        break;
                    case ADDRESS:
                        putAddress(out, s);
                        break;
                    case NUMBER:
                        putNumber(out, s);
                        break;
                    case LIST:
                        putList(out, s);
                        break;
                    case TEXTS:
                        putTexts(out, s);
                        break;
                    default:
                        break;
                }
            }
        }

        private void put(Program out, int place, int length, int bits) {
            for (int i = 0; i < length; i++) {
                if (place + i >= 0 && place + i < out.image.length) {
                    out.image[place + i] = (byte) (bits >> 8 * i);
                }
            }
        }

        private int worked(int code, int here) {
            int v = reader.evaluate(code, here);
            if (reader.trouble != 0) {
                blame(reader.trouble);
            }
            return v;
        }

        private int checked(char letter, int v) {
            if (!Op.fits(letter, v)) {
                blame(10);
            }
            return Op.placed(letter, v);
        }

        private void putPlain(Program out, int s) {
            int bits = statement[s + BITS];
            int place = statement[s + PLACE];
            char letter = (char) statement[s + LETTER];
            if (letter != 0) {
                int v = worked(statement[s + CODE], place);
                bits |= checked(letter, Op.isTarget(letter) ? v - place : v);
            }
            put(out, place, statement[s + LENGTH], bits);
        }

        private void putGrown(Program out, int s) {
            int bits = statement[s + BITS];
            int place = statement[s + PLACE];
            int length = statement[s + LENGTH];
            int kind = statement[s + KIND];
            int offset = worked(statement[s + CODE], place) - place;
            if (length == 8) {
                put(out, place, 4, bits ^ OPPOSITE | Op.placed('T', 8));
                put(out, place + 4, 4, JAL_ZERO | checked('J', offset - 4));
                return;
            }
            if (length == 2) {
                if (kind == HOP) {
                    bits = (bits >> 7 & 31) == 0 ? SHORT_JUMP : SHORT_CALL;
                } else {
                    bits = SHORT_BRANCH_BITS | (bits & OPPOSITE) << 1 | Op.placed('q', bits >> 15 & 31);
                }
            }
            put(out, place, length, bits | checked(growingLetter(kind, length), offset));
        }

        private void putAddress(Program out, int s) {
            int place = statement[s + PLACE];
            int d = statement[s + BITS] >> 7 & 31;
            int offset = worked(statement[s + CODE], place) - place;
            put(out, place, 4, statement[s + BITS] | Op.placed('U', Reader.high(offset)));
            put(out, place + 4, 4, ADDI_BITS | d << 7 | d << 15 | Op.placed('I', Reader.low(offset)));
        }

        private void putNumber(Program out, int s) {
            int place = statement[s + PLACE];
            int length = statement[s + LENGTH];
            int d = statement[s + BITS];
            int v = statement[s + CODE];
            if (length == 2) {
                put(out, place, 2, SHORT_LI | d << 7 | Op.placed('N', v));
            } else if (Op.fits('I', v)) {
                put(out, place, 4, ADDI_BITS | d << 7 | Op.placed('I', v));
            } else {
                put(out, place, 4, LUI_BITS | d << 7 | Op.placed('U', Reader.high(v)));
                if (length == 8) {
                    put(out, place + 4, 4, ADDI_BITS | d << 7 | d << 15 | Op.placed('I', Reader.low(v)));
                }
            }
        }

        private void putList(Program out, int s) {
            int each = statement[s + BITS];
            int code = statement[s + CODE];
            int place = statement[s + PLACE];
            for (int i = 0; i < statement[s + LENGTH] && fault == 0; i += Math.max(1, each)) {
                put(out, place + i, each, worked(code, place));
                code = reader.behind(code);
            }
        }

        private void putTexts(Program out, int s) {
            for (int i = 0; i < statement[s + LENGTH]; i++) {
                int from = statement[s + CODE] + i;
                if (from >= 0 && from < letters.length) {
                    put(out, statement[s + PLACE] + i, 1, letters[from]);
                }
            }
        }

        private void describe(Program out) {
            out.startDescription(textSize, dataStart, size);
            out.constants = constants;
            for (int s = 0; s < statements * ROW; s += ROW) {
                if (statement[s + LENGTH] > 0) {
                    out.addStatement(statement[s + PLACE], statement[s + LINE_OF]);
                }
            }
            for (int i = 0; i < reader.labels * Reader.LABEL_ROW; i += Reader.LABEL_ROW) {
                if (reader.label[i + Reader.NAMED] == 1) {
                    out.addLabel(reader.label[i + Reader.PLACE]);
                }
            }
        }
    }

    /** All that the machine is at a count: processes, their spaces, the clock, random words, and open things. */
    private static final class Machine {
        static final int PROCESSES = 16;
        static final int REGISTERS = 33;
        static final int PLACE = 32;
        static final int SPACE = 65536;
        static final int SIGNALS = 16;
        static final int RANDOMS = 16;
        private static final int PAGES = 64;
        private static final int PAGE_WORDS = 256;
        private static final int FRAMES = 256;
        private static final int STACK_PAGE = 60;
        private static final int STACK_PAGES = 4;

        // Rights of pages.
        static final int READ = 1;
        static final int WRITE = 2;
        static final int RUN = 4;
        static final int ANY = 7;

        static final int ABSENT = 0;
        static final int READY = 1;
        static final int WAITING = 2;
        static final int ENDED = 3;

        // Of a process.
        static final int STATUS = 0;
        static final int PARENT = 1;
        static final int CODE = 2;
        static final int PENDING = 3;
        static final int WITHIN = 4;
        static final int HEAP = 5;
        static final int HEAP_END = 6;
        static final int ROW = 7;

        static final int NOTHING = -1;

        private final int[] word = new int[FRAMES * PAGE_WORDS];
        private final int[] users = new int[FRAMES];
        // A page that is there has its frame and, in the lowest three bits, its rights.
        private final int[] page = new int[PROCESSES * PAGES];
        private int framesUsed;
        final int[] reg = new int[PROCESSES * REGISTERS];
        final int[] saved = new int[PROCESSES * REGISTERS];
        final int[] handler = new int[PROCESSES * SIGNALS];
        final int[] self = new int[PROCESSES * ROW];
        final long[] sleep = new long[PROCESSES];
        private final int[] random = new int[RANDOMS];
        int randoms;
        final Things things = new Things();
        int waiting;
        int current;
        int last;
        int ticked;
        int reserved;
        long clock;
        long retired;
        // What the latest tick wrote: process, address and how many bytes; 0 for nothing.
        int written;

        /** Process 0 with a program, all else as at first. */
        void start(Program program) {
            Arrays.fill(users, 0);
            Arrays.fill(page, 0);
            framesUsed = 0;
            for (int p = 0; p < PROCESSES; p++) {
                makeAbsent(p);
            }
            randoms = 0;
            waiting = 0;
            current = NOTHING;
            last = PROCESSES - 1;
            ticked = NOTHING;
            clock = 0;
            retired = 0;
            written = 0;
            things.start();
            load(0, program);
            self[STATUS] = READY;
            chooseCurrent();
        }

        void become(Machine it) {
            for (int f = 0; f < FRAMES; f++) {
                if (it.users[f] > 0) {
                    System.arraycopy(it.word, f * PAGE_WORDS, word, f * PAGE_WORDS, PAGE_WORDS);
                }
            }
            System.arraycopy(it.users, 0, users, 0, users.length);
            System.arraycopy(it.page, 0, page, 0, page.length);
            framesUsed = it.framesUsed;
            System.arraycopy(it.reg, 0, reg, 0, reg.length);
            System.arraycopy(it.saved, 0, saved, 0, saved.length);
            System.arraycopy(it.handler, 0, handler, 0, handler.length);
            System.arraycopy(it.self, 0, self, 0, self.length);
            System.arraycopy(it.sleep, 0, sleep, 0, sleep.length);
            System.arraycopy(it.random, 0, random, 0, random.length);
            randoms = it.randoms;
            things.become(it.things);
            waiting = it.waiting;
            current = it.current;
            last = it.last;
            ticked = it.ticked;
            reserved = it.reserved;
            clock = it.clock;
            retired = it.retired;
            written = it.written;
        }

        // ---- memory

        boolean may(int p, int address, int right) {
            return address >>> 16 == 0 && (page[p << 6 | address >>> 10] & right) != 0;
        }

        /** Whether n bytes, at most a page's, may be used so. */
        boolean mayAll(int p, int address, int n, int right) {
            return n <= 0 || may(p, address, right) && may(p, address + n - 1, right);
        }

        int wordAt(int p, int address) {
            int frame = page[p << 6 | address >>> 10 & 63] >> 3;
            return word[frame << 8 | address >>> 2 & 255];
        }

        int halfAt(int p, int address) {
            int frame = page[p << 6 | address >>> 10 & 63] >> 3;
            return word[frame << 8 | address >>> 2 & 255] >>> 8 * (address & 2) & 0xffff;
        }

        int byteAt(int p, int address) {
            int frame = page[p << 6 | address >>> 10 & 63] >> 3;
            return word[frame << 8 | address >>> 2 & 255] >>> 8 * (address & 3) & 255;
        }

        /** The bytes of a mask's bits, in the word of an address, become those of v. */
        void put(int p, int address, int mask, int v) {
            int shift = 8 * (address & 3);
            int i = page[p << 6 | address >>> 10 & 63] >> 3 << 8 | address >>> 2 & 255;
            word[i] = word[i] & ~(mask << shift) | (v & mask) << shift;
        }

        int framesFree() {
            return FRAMES - framesUsed;
        }

        /** How many frames are needed before n bytes, at most a page's, are written. */
        int framesFor(int p, int address, int n) {
            if (n <= 0) {
                return 0;
            }
            int first = p << 6 | address >>> 10 & 63;
            int second = p << 6 | address + n - 1 >>> 10 & 63;
            int wanted = users[page[first] >> 3] > 1 ? 1 : 0;
            return second != first && users[page[second] >> 3] > 1 ? wanted + 1 : wanted;
        }

        /** The page of an address, which is there, comes into a frame of its own: whether there is one. */
        boolean own(int p, int address) {
            int k = p << 6 | address >>> 10 & 63;
            int frame = page[k] >> 3;
            if (users[frame] <= 1) {
                return true;
            }
            for (int f = 0; f < FRAMES; f++) {
                if (users[f] == 0) {
                    System.arraycopy(word, frame * PAGE_WORDS, word, f * PAGE_WORDS, PAGE_WORDS);
                    users[frame]--;
                    users[f] = 1;
                    framesUsed++;
                    page[k] = f << 3 | page[k] & ANY;
                    return true;
                }
            }
            return false;
        }

        /** New pages with 0, from one on and so many, where there were none. */
        void addPages(int p, int from, int n, int rights) {
            int k = from;
            for (int f = 0; f < FRAMES && k < from + n && k < PAGES; f++) {
                if (users[f] == 0) {
                    for (int i = 0; i < PAGE_WORDS; i++) {
                        word[f * PAGE_WORDS + i] = 0;
                    }
                    users[f] = 1;
                    framesUsed++;
                    page[p << 6 | k] = f << 3 | rights;
                    k++;
                }
            }
        }

        void dropPage(int p, int k) {
            int it = page[p << 6 | k & 63];
            if (it != 0) {
                page[p << 6 | k & 63] = 0;
                users[it >> 3]--;
                if (users[it >> 3] == 0) {
                    framesUsed--;
                }
            }
        }

        void dropPages(int p) {
            for (int k = 0; k < PAGES; k++) {
                dropPage(p, k);
            }
        }

        private int pagesOf(int p) {
            int n = 0;
            for (int k = 0; k < PAGES; k++) {
                if (page[p << 6 | k] != 0) {
                    n++;
                }
            }
            return n;
        }

        static int pagesFor(Program program) {
            return program.textPages() + program.dataPages() + STACK_PAGES;
        }

        /** The space, registers and place of a program, for a process that has no pages; without handlers. */
        void load(int p, Program program) {
            addPages(p, 0, program.textPages(), READ | RUN);
            addPages(p, program.dataStart / Program.PAGE, program.dataPages(), READ | WRITE);
            addPages(p, STACK_PAGE, STACK_PAGES, READ | WRITE);
            for (int a = 0; a < program.size; a++) {
                if (program.image[a] != 0) {
                    put(p, a, 255, program.image[a]);
                }
            }
            for (int r = 0; r < REGISTERS; r++) {
                reg[p * REGISTERS + r] = r == 2 ? SPACE : 0;
            }
            for (int signal = 0; signal < SIGNALS; signal++) {
                handler[p * SIGNALS + signal] = 0;
            }
            self[p * ROW + WITHIN] = 0;
            self[p * ROW + HEAP] = program.heapStart();
            self[p * ROW + HEAP_END] = program.heapStart();
            sleep[p] = NOTHING;
            reserved = NOTHING;
        }

        /** What the tick wrote; a word of which a byte is written is reserved no more. */
        void noteWrite(int p, int address, int n) {
            if (n > 0) {
                written = p << 26 | address << 10 | n;
                if (reserved >= 0 && address < reserved + 4 && address + n > reserved) {
                    reserved = NOTHING;
                }
            }
        }

        // ---- processes

        int status(int p) {
            return self[p * ROW + STATUS];
        }

        /** The signal that the process would take before its next step; 0 without one. */
        int takeable(int p) {
            int pending = self[p * ROW + PENDING];
            if (self[p * ROW + WITHIN] != 0) {
                pending &= 1 << Kernel.KILL;
            }
            if ((pending & 1 << Kernel.KILL) != 0) {
                return Kernel.KILL;
            }
            return pending == 0 ? 0 : Integer.numberOfTrailingZeros(pending);
        }

        /** The next READY process behind one in the ring, which may be itself; -1 without one. */
        int nextReady(int p) {
            for (int k = 1; k <= PROCESSES; k++) {
                int q = p + k & 15;
                if (self[q * ROW + STATUS] == READY) {
                    return q;
                }
            }
            return NOTHING;
        }

        void chooseCurrent() {
            if (current < 0 || status(current & 15) != READY) {
                makeCurrent(nextReady(last));
            }
        }

        void makeCurrent(int p) {
            current = p;
            if (p >= 0) {
                last = p;
            }
        }

        private int processesThere() {
            int n = 0;
            for (int p = 0; p < PROCESSES; p++) {
                if (status(p) != ABSENT) {
                    n++;
                }
            }
            return n;
        }

        /** The least child that has ENDED, or -1; with any, the least child of all. */
        int leastChild(int p, boolean any) {
            for (int q = 0; q < PROCESSES; q++) {
                int status = self[q * ROW + STATUS];
                if (status != ABSENT && self[q * ROW + PARENT] == p && (any || status == ENDED)) {
                    return q;
                }
            }
            return NOTHING;
        }

        void makeAbsent(int p) {
            for (int what = 0; what < ROW; what++) {
                self[p * ROW + what] = what == PARENT ? NOTHING : 0;
            }
        }

        void finish(int p, int code) {
            for (int d = 0; d < Things.LINKS; d++) {
                things.close(p, d);
            }
            dropPages(p);
            for (int q = 0; q < PROCESSES; q++) {
                if (status(q) != ABSENT && self[q * ROW + PARENT] == p) {
                    if (status(q) == ENDED) {
                        makeAbsent(q);
                    } else {
                        self[q * ROW + PARENT] = NOTHING;
                    }
                }
            }
            int parent = self[p * ROW + PARENT];
            makeAbsent(p);
            if (parent >= 0) {
                self[p * ROW + STATUS] = ENDED;
                self[p * ROW + PARENT] = parent;
                self[p * ROW + CODE] = code & 255;
            }
        }

        /** All of a child but its descriptors. */
        void fork(int p, int child) {
            makeAbsent(child);
            System.arraycopy(reg, p * REGISTERS, reg, child * REGISTERS, REGISTERS);
            System.arraycopy(saved, p * REGISTERS, saved, child * REGISTERS, REGISTERS);
            System.arraycopy(handler, p * SIGNALS, handler, child * SIGNALS, SIGNALS);
            System.arraycopy(page, p << 6, page, child << 6, PAGES);
            for (int k = 0; k < PAGES; k++) {
                if (page[p << 6 | k] != 0) {
                    users[page[p << 6 | k] >> 3]++;
                }
            }
            self[child * ROW + STATUS] = READY;
            self[child * ROW + PARENT] = p;
            self[child * ROW + WITHIN] = self[p * ROW + WITHIN];
            self[child * ROW + HEAP] = self[p * ROW + HEAP];
            self[child * ROW + HEAP_END] = self[p * ROW + HEAP_END];
            sleep[child] = NOTHING;
            reg[child * REGISTERS + 10] = 0;
            reg[child * REGISTERS + PLACE] += 4;
        }

        /** A random word behind those that wait: whether there was room. */
        boolean addRandom(int it) {
            if (randoms >= RANDOMS) {
                return false;
            }
            random[randoms] = it;
            randoms++;
            return true;
        }

        int takeRandom() {
            int it = random[0];
            System.arraycopy(random, 1, random, 0, RANDOMS - 1);
            randoms = Math.max(0, randoms - 1);
            return it;
        }

        // ---- what is told

        int registerOf(int p, int r) {
            return status(p) == ABSENT ? 0 : reg[p * REGISTERS + r];
        }

        int told(int p, int what) {
            switch (what) {
                case 5:
                    return pagesOf(p);
                case 6:
                    return self[p * ROW + HEAP_END];
                case 7:
                    return status(p) == WAITING ? reg[p * REGISTERS + 17] : -1;
                default:
                    return self[p * ROW + what];
            }
        }

        long counted(int what) {
            switch (what) {
                case 6:
                    return clock;
                case 7:
                    return randoms;
                case 8:
                    return things.shownInAll;
                case 9:
                    return things.typedBytes;
                case 10:
                    return framesUsed;
                case 11:
                    return processesThere();
                case 12:
                    return things.namedFiles();
                case 13:
                    return Things.OPENINGS - things.openingsFree();
                default:
                    return retired;
            }
        }
    }

    /** Descriptors, openings, pipes, files and the console. */
    private static final class Things {
        static final int LINKS = 16;
        static final int OPENINGS = 48;
        static final int ROOM = 512;
        static final int NAME = 16;
        private static final int PIPES = 8;
        private static final int FILES = 16;
        private static final int SHOWN = 2048;
        private static final int FINISH = 4;

        // Kinds of openings.
        static final int NONE = 0;
        static final int READS = 1;
        static final int WRITES = 2;
        static final int FILE = 3;
        static final int CONSOLE = 4;

        // Of an opening: its kind, how many descriptors are to it, which pipe or file, position, rights.
        static final int KIND = 0;
        static final int USERS = 1;
        static final int THING = 2;
        static final int POSITION = 3;
        static final int RIGHTS = 4;
        private static final int OPENING_ROW = 5;
        // Of a pipe: how many bytes, how many openings of the kinds READS and WRITES, and where the oldest byte is.
        private static final int LENGTH = 0;
        private static final int OLDEST = 3;
        private static final int PIPE_ROW = 4;
        // Of a file: how many bytes, how many openings, and whether it has a name.
        private static final int HOLDERS = 1;
        private static final int NAMED = 2;
        private static final int FILE_ROW = 3;

        // Rights of openings.
        static final int READ = 1;
        static final int WRITE = 2;
        static final int APPEND = 4;

        // A descriptor's opening and 1; 0 for none.
        private final int[] link = new int[Machine.PROCESSES * LINKS];
        final int[] opening = new int[OPENINGS * OPENING_ROW];
        private final int[] pipe = new int[PIPES * PIPE_ROW];
        private final byte[] piped = new byte[PIPES * ROOM];
        private final int[] file = new int[FILES * FILE_ROW];
        private final byte[] filed = new byte[FILES * ROOM];
        private final byte[] names = new byte[FILES * NAME];
        private final byte[] typed = new byte[ROOM];
        int typedBytes;
        private final byte[] shownBytes = new byte[SHOWN];
        long shownInAll;

        void start() {
            Arrays.fill(link, 0);
            Arrays.fill(opening, 0);
            Arrays.fill(pipe, 0);
            Arrays.fill(file, 0);
            typedBytes = 0;
            shownInAll = 0;
            int o = open(CONSOLE, 0, READ | WRITE);
            linkTo(0, 0, o);
            linkTo(0, 1, o);
        }

        void become(Things it) {
            System.arraycopy(it.link, 0, link, 0, link.length);
            System.arraycopy(it.opening, 0, opening, 0, opening.length);
            System.arraycopy(it.pipe, 0, pipe, 0, pipe.length);
            System.arraycopy(it.piped, 0, piped, 0, piped.length);
            System.arraycopy(it.file, 0, file, 0, file.length);
            System.arraycopy(it.filed, 0, filed, 0, filed.length);
            System.arraycopy(it.names, 0, names, 0, names.length);
            System.arraycopy(it.typed, 0, typed, 0, typed.length);
            typedBytes = it.typedBytes;
            System.arraycopy(it.shownBytes, 0, shownBytes, 0, shownBytes.length);
            shownInAll = it.shownInAll;
        }

        // ---- descriptors and openings

        int openingOf(int p, int d) {
            return d < 0 || d >= LINKS ? -1 : link[p * LINKS + d] - 1;
        }

        int of(int o, int what) {
            return opening[o * OPENING_ROW + what];
        }

        /** The least free descriptor not below one, or -1. */
        int freeLink(int p, int from) {
            for (int d = Math.max(0, from); d < LINKS; d++) {
                if (link[p * LINKS + d] == 0) {
                    return d;
                }
            }
            return -1;
        }

        int openingsFree() {
            int n = 0;
            for (int o = 0; o < OPENINGS; o++) {
                if (of(o, KIND) == NONE) {
                    n++;
                }
            }
            return n;
        }

        /** A new opening, to which no descriptor is yet; -1 without room. */
        int open(int kind, int thing, int rights) {
            for (int o = 0; o < OPENINGS; o++) {
                int i = o * OPENING_ROW;
                if (opening[i + KIND] == NONE) {
                    opening[i + KIND] = kind;
                    opening[i + USERS] = 0;
                    opening[i + THING] = thing;
                    opening[i + POSITION] = 0;
                    opening[i + RIGHTS] = rights;
                    hold(kind, thing, 1);
                    return o;
                }
            }
            return -1;
        }

        private void hold(int kind, int thing, int more) {
            if (kind == FILE) {
                file[thing * FILE_ROW + HOLDERS] += more;
            } else if (kind != CONSOLE) {
                pipe[thing * PIPE_ROW + kind] += more;
            }
        }

        void linkTo(int p, int d, int o) {
            link[p * LINKS + d] = o + 1;
            opening[o * OPENING_ROW + USERS]++;
        }

        void close(int p, int d) {
            int o = openingOf(p, d);
            if (o >= 0) {
                link[p * LINKS + d] = 0;
                opening[o * OPENING_ROW + USERS]--;
                if (of(o, USERS) == 0) {
                    hold(of(o, KIND), of(o, THING), -1);
                    opening[o * OPENING_ROW + KIND] = NONE;
                }
            }
        }

        /** A child has its parent's descriptors. */
        void share(int p, int child) {
            for (int d = 0; d < LINKS; d++) {
                int o = openingOf(p, d);
                if (o >= 0) {
                    linkTo(child, d, o);
                }
            }
        }

        // ---- pipes and files

        int freePipe() {
            for (int k = 0; k < PIPES; k++) {
                if (pipe[k * PIPE_ROW + READS] + pipe[k * PIPE_ROW + WRITES] == 0) {
                    return k;
                }
            }
            return -1;
        }

        void emptyPipe(int k) {
            pipe[k * PIPE_ROW + LENGTH] = 0;
            pipe[k * PIPE_ROW + OLDEST] = 0;
        }

        /** Whether no opening reads the pipe that an opening writes into. */
        boolean isBroken(int o) {
            return of(o, KIND) == WRITES && pipe[of(o, THING) * PIPE_ROW + READS] == 0;
        }

        /** The file with a name (of 16 bytes, 0 behind it), or -1. */
        int fileNamed(byte[] name) {
            for (int k = 0; k < FILES; k++) {
                boolean same = file[k * FILE_ROW + NAMED] != 0;
                for (int i = 0; same && i < NAME; i++) {
                    same = names[k * NAME + i] == name[i];
                }
                if (same) {
                    return k;
                }
            }
            return -1;
        }

        int freeFile() {
            for (int k = 0; k < FILES; k++) {
                if (file[k * FILE_ROW + NAMED] == 0 && file[k * FILE_ROW + HOLDERS] == 0) {
                    return k;
                }
            }
            return -1;
        }

        void giveName(int k, byte[] name) {
            file[k * FILE_ROW + NAMED] = 1;
            System.arraycopy(name, 0, names, k * NAME, NAME);
        }

        void loseName(int k) {
            file[k * FILE_ROW + NAMED] = 0;
        }

        void emptyFile(int k) {
            file[k * FILE_ROW + LENGTH] = 0;
        }

        int namedFiles() {
            int n = 0;
            for (int k = 0; k < FILES; k++) {
                n += file[k * FILE_ROW + NAMED];
            }
            return n;
        }

        /** How many bytes there are in a pipe or file, or typed. */
        int amount(int o) {
            int kind = opening[o * OPENING_ROW + KIND];
            int thing = opening[o * OPENING_ROW + THING];
            if (kind == CONSOLE) {
                return typedBytes;
            }
            return kind == FILE ? file[thing * FILE_ROW + LENGTH] : pipe[thing * PIPE_ROW + LENGTH];
        }

        int byteOf(int o, int i) {
            int thing = opening[o * OPENING_ROW + THING];
            switch (opening[o * OPENING_ROW + KIND]) {
                case CONSOLE:
                    return typed[i & ROOM - 1] & 255;
                case FILE:
                    return filed[thing * ROOM + (i & ROOM - 1)] & 255;
                default:
                    return piped[thing * ROOM + (pipe[thing * PIPE_ROW + OLDEST] + i & ROOM - 1)] & 255;
            }
        }

        int told(int o, int what) {
            switch (what) {
                case 1:
                    return of(o, USERS);
                case 2:
                    return amount(o);
                default:
                    return of(o, what);
            }
        }

        // ---- reading and writing

        boolean readWaits(int o, int n) {
            if (n == 0 || o < 0) {
                return false;
            }
            int kind = opening[o * OPENING_ROW + KIND];
            int k = opening[o * OPENING_ROW + THING] * PIPE_ROW;
            if (kind == CONSOLE) {
                return typedBytes == 0;
            }
            return kind == READS && pipe[k + LENGTH] == 0 && pipe[k + WRITES] > 0;
        }

        boolean writeWaits(int o, int n) {
            if (n == 0 || o < 0 || opening[o * OPENING_ROW + KIND] != WRITES) {
                return false;
            }
            int k = opening[o * OPENING_ROW + THING] * PIPE_ROW;
            return ROOM - pipe[k + LENGTH] < n && pipe[k + READS] > 0;
        }

        /** How many bytes reading n would give. */
        int coming(int o, int n) {
            int there = amount(o);
            if (of(o, KIND) == FILE) {
                return Math.max(0, Math.min(n, there - of(o, POSITION)));
            }
            int most = Math.min(n, there);
            if (of(o, KIND) == CONSOLE) {
                for (int i = 0; i < most; i++) {
                    if (typed[i] == FINISH) {
                        return i;
                    }
                }
            }
            return most;
        }

        /** What reading n gives, byte i. */
        int comingByte(int o, int i) {
            return byteOf(o, of(o, KIND) == FILE ? of(o, POSITION) + i : i);
        }

        /** Reading n gave so many bytes: they go, or the position goes on. */
        void taken(int o, int n, int given) {
            int thing = of(o, THING);
            switch (of(o, KIND)) {
                case FILE:
                    opening[o * OPENING_ROW + POSITION] += given;
                    break;
                case CONSOLE:
                    // Fewer than n, with more behind them: there an end was met, which is taken, too.
                    int gone = given < n && given < typedBytes ? given + 1 : given;
                    System.arraycopy(typed, gone, typed, 0, typedBytes - gone);
                    typedBytes -= gone;
                    break;
                default:
                    pipe[thing * PIPE_ROW + LENGTH] -= given;
                    pipe[thing * PIPE_ROW + OLDEST] = pipe[thing * PIPE_ROW + OLDEST] + given & ROOM - 1;
                    break;
            }
        }

        /** Where writing begins in a file that is open. */
        int writingPlace(int o) {
            return (of(o, RIGHTS) & APPEND) != 0 ? amount(o) : of(o, POSITION);
        }

        /** Makes room for n bytes at a place of a file that is open: it is as long as they need, with 0 up to them. */
        void stretch(int o, int place, int n) {
            int k = of(o, THING);
            int length = file[k * FILE_ROW + LENGTH];
            for (int i = length; i < place && i < ROOM; i++) {
                filed[k * ROOM + i] = 0;
            }
            file[k * FILE_ROW + LENGTH] = Math.max(length, place + n);
            opening[o * OPENING_ROW + POSITION] = place + n;
        }

        void putFiled(int o, int place, int v) {
            filed[of(o, THING) * ROOM + (place & ROOM - 1)] = (byte) v;
        }

        void putPiped(int o, int v) {
            int k = of(o, THING);
            int length = pipe[k * PIPE_ROW + LENGTH];
            piped[k * ROOM + (pipe[k * PIPE_ROW + OLDEST] + length & ROOM - 1)] = (byte) v;
            pipe[k * PIPE_ROW + LENGTH] = length + 1;
        }

        void show(int v) {
            shownBytes[(int) (shownInAll & SHOWN - 1)] = (byte) v;
            shownInAll++;
        }

        int shownByte(int k) {
            long kept = Math.min(shownInAll, SHOWN);
            if (k < 0 || k >= kept) {
                return -1;
            }
            return shownBytes[(int) (shownInAll - kept + k & SHOWN - 1)] & 255;
        }

        /** The b lowest bytes of a are typed, the highest first: whether there was room. */
        boolean type(long a, int b) {
            if (typedBytes + b > ROOM) {
                return false;
            }
            for (int i = b - 1; i >= 0; i--) {
                typed[typedBytes] = (byte) (a >> 8 * i);
                typedBytes++;
            }
            return true;
        }

        void seek(int o, int place) {
            opening[o * OPENING_ROW + POSITION] = place;
        }
    }

    /** Carries out one instruction of a process. */
    private static final class Hart {
        static final int CALL = -1;
        private static final int ILLEGAL = 4;
        private static final int BREAK = 5;
        private static final int MISALIGNED = 7;
        private static final int NO_MEMORY = 11;
        private static final int NO_FRAME = 7;

        private final Machine machine;
        private final int[] reg;
        private int process;
        // Where the process's registers begin.
        private int base;
        private int place;
        // Where the place is behind the instruction.
        private int next;

        Hart(Machine machine) {
            this.machine = machine;
            this.reg = machine.reg;
        }

        /** 0 when it was carried out; else nothing changed, and this is CALL or the signal of a trap. */
        int step(int p) {
            process = p;
            base = p * Machine.REGISTERS;
            place = reg[base + Machine.PLACE];
            if ((place & 1) != 0 || !machine.may(p, place, Machine.RUN)) {
                return NO_MEMORY;
            }
            int bits = machine.halfAt(p, place);
            if ((bits & 3) == 3) {
                if (!machine.may(p, place + 2, Machine.RUN)) {
                    return NO_MEMORY;
                }
                bits |= machine.halfAt(p, place + 2) << 16;
                next = place + 4;
            } else {
                bits = expanded(bits);
                next = place + 2;
            }
            int trap = work(bits);
            if (trap == 0) {
                reg[base + Machine.PLACE] = next;
                machine.retired++;
            }
            return trap;
        }

        private void set(int bits, int v) {
            int d = bits >> 7 & 31;
            if (d != 0) {
                reg[base + d] = v;
            }
        }

        private int work(int bits) {
            int a = reg[base + (bits >> 15 & 31)];
            int b = reg[base + (bits >> 20 & 31)];
            int f = bits >> 12 & 7;
            switch (bits & 127) {
                case 0x37:
                    set(bits, bits & 0xfffff000);
                    return 0;
                case 0x17:
                    set(bits, place + (bits & 0xfffff000));
                    return 0;
                case 0x6f:
                    set(bits, next);
                    next = place + jumpOffset(bits);
                    return 0;
                case 0x67:
                    return f == 0 ? jump(bits, a + (bits >> 20)) : ILLEGAL;
                case 0x63:
                    return branch(bits, f, a, b);
                case 0x03:
                    return load(bits, f, a + (bits >> 20));
                case 0x23:
                    return store(f, a + (bits >> 25 << 5 | bits >> 7 & 31), b);
                case 0x13:
                    return workWithNumber(bits, f, a);
                case 0x33:
                    return bits >>> 25 == 1 ? multiply(bits, f, a, b) : workWithRegister(bits, f, a, b);
                case 0x2f:
                    return f == 2 ? atomic(bits, a, b) : ILLEGAL;
                case 0x0f:
                    return f <= 1 ? 0 : ILLEGAL;
                case 0x73:
                    return system(bits, f);
                default:
                    return ILLEGAL;
            }
        }

        private static int jumpOffset(int bits) {
            return bits >> 31 << 20 | bits & 0xff000 | bits >> 9 & 0x800 | bits >> 20 & 0x7fe;
        }

        private int jump(int bits, int to) {
            set(bits, next);
            next = to & ~1;
            return 0;
        }

        private int branch(int bits, int f, int a, int b) {
            boolean taken;
            switch (f >> 1) {
                case 0:
                    taken = a == b;
                    break;
                case 2:
                    taken = a < b;
                    break;
                case 3:
                    taken = Integer.compareUnsigned(a, b) < 0;
                    break;
                default:
                    return ILLEGAL;
            }
            if (taken == ((f & 1) == 0)) {
                next = place + (bits >> 31 << 12 | bits << 4 & 0x800 | bits >> 20 & 0x7e0 | bits >> 7 & 0x1e);
            }
            return 0;
        }

        private int load(int bits, int f, int address) {
            if (f == 3 || f > 5) {
                return ILLEGAL;
            }
            if ((address & (1 << (f & 3)) - 1) != 0) {
                return MISALIGNED;
            }
            if (!machine.may(process, address, Machine.READ)) {
                return NO_MEMORY;
            }
            switch (f) {
                case 0:
                    set(bits, (byte) machine.byteAt(process, address));
                    break;
                case 1:
                    set(bits, (short) machine.halfAt(process, address));
                    break;
                case 2:
                    set(bits, machine.wordAt(process, address));
                    break;
                case 4:
                    set(bits, machine.byteAt(process, address));
                    break;
                default:
                    set(bits, machine.halfAt(process, address));
                    break;
            }
            return 0;
        }

        private int store(int f, int address, int v) {
            if (f > 2) {
                return ILLEGAL;
            }
            if ((address & (1 << f) - 1) != 0) {
                return MISALIGNED;
            }
            if (!machine.may(process, address, Machine.WRITE)) {
                return NO_MEMORY;
            }
            if (!machine.own(process, address)) {
                return NO_FRAME;
            }
            machine.put(process, address, f == 0 ? 255 : f == 1 ? 0xffff : -1, v);
            machine.noteWrite(process, address, 1 << f);
            return 0;
        }

        private int workWithNumber(int bits, int f, int a) {
            int i = bits >> 20;
            int g = bits >>> 25;
            if (f == 1 && g != 0 || f == 5 && g != 0 && g != 32) {
                return ILLEGAL;
            }
            set(bits, f == 5 && g == 32 ? a >> (i & 31) : reckoned(f, a, i));
            return 0;
        }

        private int workWithRegister(int bits, int f, int a, int b) {
            int g = bits >>> 25;
            if (g == 0) {
                set(bits, reckoned(f, a, b));
            } else if (g == 32 && f == 0) {
                set(bits, a - b);
            } else if (g == 32 && f == 5) {
                set(bits, a >> (b & 31));
            } else {
                return ILLEGAL;
            }
            return 0;
        }

        private static int reckoned(int f, int a, int b) {
            switch (f) {
                case 0:
                    return a + b;
                case 1:
                    return a << (b & 31);
                case 2:
                    return a < b ? 1 : 0;
                case 3:
                    return Integer.compareUnsigned(a, b) < 0 ? 1 : 0;
                case 4:
                    return a ^ b;
                case 5:
                    return a >>> (b & 31);
                case 6:
                    return a | b;
                default:
                    return a & b;
            }
        }

        private int multiply(int bits, int f, int a, int b) {
            long unsignedA = a & 0xffffffffL;
            long unsignedB = b & 0xffffffffL;
            int v;
            switch (f) {
                case 0:
                    v = a * b;
                    break;
                case 1:
                    v = (int) ((long) a * b >> 32);
                    break;
                case 2:
                    v = (int) (a * unsignedB >> 32);
                    break;
                case 3:
                    v = (int) (unsignedA * unsignedB >>> 32);
                    break;
                case 4:
                    v = b == 0 ? -1 : a / b;
                    break;
                case 5:
                    v = b == 0 ? -1 : (int) (unsignedA / unsignedB);
                    break;
                case 6:
                    v = b == 0 ? a : a % b;
                    break;
                default:
                    v = b == 0 ? a : (int) (unsignedA % unsignedB);
                    break;
            }
            set(bits, v);
            return 0;
        }

        private int atomic(int bits, int address, int b) {
            int k = bits >>> 27;
            boolean reserves = k == 2;
            if (reserves && (bits >> 20 & 31) != 0 || !isAtomic(k)) {
                return ILLEGAL;
            }
            if ((address & 3) != 0) {
                return MISALIGNED;
            }
            if (!reserves && !machine.may(process, address, Machine.WRITE)
                    || !machine.may(process, address, Machine.READ)) {
                return NO_MEMORY;
            }
            if (reserves) {
                set(bits, machine.wordAt(process, address));
                machine.reserved = address;
                return 0;
            }
            boolean conditional = k == 3;
            if (conditional && machine.reserved != address) {
                set(bits, 1);
                machine.reserved = Machine.NOTHING;
                return 0;
            }
            if (!machine.own(process, address)) {
                return NO_FRAME;
            }
            int old = machine.wordAt(process, address);
            machine.put(process, address, -1, conditional ? b : changed(k, old, b));
            machine.noteWrite(process, address, 4);
            set(bits, conditional ? 0 : old);
            return 0;
        }

        private static boolean isAtomic(int k) {
            return k <= 4 || (k & 3) == 0;
        }

        private static int changed(int k, int old, int b) {
            switch (k) {
                case 0:
                    return old + b;
                case 1:
                    return b;
                case 4:
                    return old ^ b;
                case 8:
                    return old | b;
                case 12:
                    return old & b;
                case 16:
                    return Math.min(old, b);
                case 20:
                    return Math.max(old, b);
                case 24:
                    return Integer.compareUnsigned(old, b) < 0 ? old : b;
                default:
                    return Integer.compareUnsigned(old, b) > 0 ? old : b;
            }
        }

        private int system(int bits, int f) {
            if (bits == 0x73) {
                return CALL;
            }
            if (bits == 0x100073) {
                return BREAK;
            }
            if ((f & 3) < 2 || (bits >> 15 & 31) != 0) {
                return ILLEGAL;
            }
            switch (bits >>> 20) {
                case 0xc00:
                case 0xc02:
                    set(bits, (int) machine.retired);
                    return 0;
                case 0xc80:
                case 0xc82:
                    set(bits, (int) (machine.retired >> 32));
                    return 0;
                case 0xc01:
                    set(bits, (int) machine.clock);
                    return 0;
                case 0xc81:
                    set(bits, (int) (machine.clock >> 32));
                    return 0;
                default:
                    return ILLEGAL;
            }
        }

        // ---- short ones

        /** The long instruction that does what a short one does; 0, which is none, for bits that are none. */
        private static int expanded(int half) {
            switch (half & 3) {
                case 0:
                    return expandedFirst(half);
                case 1:
                    return half >> 13 == 4 ? expandedSums(half) : expandedSecond(half);
                default:
                    return expandedThird(half);
            }
        }

        private static int number(int i, int a, int f, int d) {
            return i << 20 | a << 15 | f << 12 | d << 7 | 0x13;
        }

        private static int loading(int offset, int a, int d) {
            return offset << 20 | a << 15 | 2 << 12 | d << 7 | 0x03;
        }

        private static int storing(int offset, int a, int b) {
            return offset >> 5 << 25 | b << 20 | a << 15 | 2 << 12 | (offset & 31) << 7 | 0x23;
        }

        private static int jumping(int offset) {
            return offset & 1 << 31 | (offset & 0x7fe) << 20 | (offset & 0x800) << 9 | offset & 0xff000;
        }

        private static int branching(int offset) {
            return offset & 1 << 31 | (offset & 0x7e0) << 20 | (offset & 0x1e) << 7 | (offset & 0x800) >> 4;
        }

        private static int expandedFirst(int half) {
            int d = 8 + (half >> 2 & 7);
            int a = 8 + (half >> 7 & 7);
            int offset = half >> 7 & 0x38 | half >> 4 & 4 | half << 1 & 0x40;
            switch (half >> 13) {
                case 0:
                    int u = half >> 7 & 0x30 | half >> 1 & 0x3c0 | half >> 4 & 4 | half >> 2 & 8;
                    return u == 0 ? 0 : number(u, 2, 0, d);
                case 2:
                    return loading(offset, a, d);
                case 6:
                    return storing(offset, a, d);
                default:
                    return 0;
            }
        }

        private static int signedNumber(int half) {
            return half << 19 >> 31 << 5 | half >> 2 & 31;
        }

        private static int expandedSecond(int half) {
            int d = half >> 7 & 31;
            int n = signedNumber(half);
            switch (half >> 13) {
                case 0:
                    return number(n, d, 0, d);
                case 1:
                case 5:
                    int offset = half << 19 >> 31 << 11 | half >> 7 & 0x10 | half >> 1 & 0x300 | half << 2 & 0x400
                            | half >> 1 & 0x40 | half << 1 & 0x80 | half >> 2 & 0xe | half << 3 & 0x20;
                    return 0x6f | (half >> 13 == 1 ? 1 << 7 : 0) | jumping(offset);
                case 2:
                    return number(n, 0, 0, d);
                case 3:
                    if (d != 2) {
                        return n == 0 ? 0 : n << 12 | d << 7 | 0x37;
                    }
                    int more = half << 19 >> 31 << 9 | half >> 2 & 0x10 | half << 1 & 0x40 | half << 4 & 0x180
                            | half << 3 & 0x20;
                    return more == 0 ? 0 : number(more, 2, 0, 2);
                default:
                    int to = half << 19 >> 31 << 8 | half >> 7 & 0x18 | half << 1 & 0xc0 | half >> 2 & 6
                            | half << 3 & 0x20;
                    return 0x63 | half >> 13 << 12 & 1 << 12 | 8 + (half >> 7 & 7) << 15 | branching(to);
            }
        }

        private static int expandedSums(int half) {
            int a = 8 + (half >> 7 & 7);
            int b = 8 + (half >> 2 & 7);
            boolean high = (half & 1 << 12) != 0;
            int which = half >> 10 & 3;
            if (which == 2) {
                return number(signedNumber(half), a, 7, a);
            }
            if (high) {
                return 0;
            }
            if (which < 2) {
                return number(half >> 2 & 31 | which << 10, a, 5, a);
            }
            int both = b << 20 | a << 15 | a << 7 | 0x33;
            switch (half >> 5 & 3) {
                case 0:
                    return both | 32 << 25;
                case 1:
                    return both | 4 << 12;
                case 2:
                    return both | 6 << 12;
                default:
                    return both | 7 << 12;
            }
        }

        private static int expandedThird(int half) {
            int d = half >> 7 & 31;
            int b = half >> 2 & 31;
            boolean high = (half & 1 << 12) != 0;
            switch (half >> 13) {
                case 0:
                    return high ? 0 : number(b, d, 1, d);
                case 2:
                    return d == 0 ? 0 : loading(half >> 7 & 0x20 | half >> 2 & 0x1c | half << 4 & 0xc0, 2, d);
                case 4:
                    if (b != 0) {
                        return b << 20 | (high ? d : 0) << 15 | d << 7 | 0x33;
                    }
                    if (d == 0) {
                        return high ? 0x100073 : 0;
                    }
                    return d << 15 | (high ? 1 : 0) << 7 | 0x67;
                case 6:
                    return storing(half >> 7 & 0x3c | half >> 1 & 0xc0, 2, b);
                default:
                    return 0;
            }
        }
    }

    /** Ticks, signals, the kernel's calls, and what comes from outside. */
    private static final class Kernel {
        static final int KILL = 9;
        private static final int FAILED = 128;
        private static final int NO_FRAME = 7;
        private static final int LARGEST_HEAP = 61440 - 1024;
        private static final int MOST_BYTES = 512;

        private static final int INVALID = -22;
        private static final int ADDRESS = -14;
        private static final int BAD = -1;
        private static final int MISSING = -2;
        private static final int THERE = -3;
        private static final int FULL = -4;
        private static final int BROKEN = -5;
        private static final int LONG = -7;
        private static final int NONE = -10;
        private static final int UNKNOWN = -38;
        // What is no answer: the call waits, answers nothing, or finds no frame.
        private static final long WAITS = 1L << 40;
        private static final long SILENT = 1L << 41;
        private static final long FRAMELESS = 1L << 42;

        // How a file is opened.
        private static final int MAKE = 8;
        private static final int NEW = 16;
        private static final int EMPTY = 32;

        private final Machine machine;
        private final Things things;
        private final int[] reg;
        private final int[] self;
        private final Hart hart;
        private final Program[] programs;
        private final byte[] name = new byte[Things.NAME];
        private final byte[] otherName = new byte[Things.NAME];

        Kernel(Machine machine, Program[] programs) {
            this.machine = machine;
            this.things = machine.things;
            this.reg = machine.reg;
            this.self = machine.self;
            this.hart = new Hart(machine);
            this.programs = programs;
        }

        // ---- ticks and signals

        void tick() {
            int p = machine.current;
            machine.written = 0;
            if (p < 0) {
                return;
            }
            if (machine.ticked != p) {
                machine.reserved = Machine.NOTHING;
                machine.ticked = p;
            }
            int signal = machine.takeable(p);
            if (signal != 0) {
                self[p * Machine.ROW + Machine.PENDING] &= ~(1 << signal);
                take(p, signal, false);
            } else {
                int trap = hart.step(p);
                if (trap == Hart.CALL) {
                    trap = answer(p, answerOf(p));
                }
                if (trap != 0) {
                    take(p, trap, self[p * Machine.ROW + Machine.WITHIN] != 0);
                }
            }
            settle();
        }

        /** The process ends without a handler, or if it must. */
        private void take(int p, int signal, boolean ends) {
            int handler = machine.handler[p * Machine.SIGNALS + signal];
            if (handler == 0 || ends) {
                machine.finish(p, FAILED + signal);
                return;
            }
            System.arraycopy(reg, p * Machine.REGISTERS, machine.saved, p * Machine.REGISTERS, Machine.REGISTERS);
            self[p * Machine.ROW + Machine.WITHIN] = 1;
            reg[p * Machine.REGISTERS + 10] = signal;
            reg[p * Machine.REGISTERS + Machine.PLACE] = handler;
        }

        /** Those that need not wait any more are READY, and there is a current one if one is READY. */
        private void settle() {
            for (int p = 0; p < Machine.PROCESSES && machine.waiting > 0; p++) {
                if (machine.status(p) == Machine.WAITING && (machine.takeable(p) != 0 || !mustWait(p))) {
                    self[p * Machine.ROW + Machine.STATUS] = Machine.READY;
                    machine.waiting--;
                }
            }
            machine.chooseCurrent();
        }

        private boolean mustWait(int p) {
            int a = argument(p, 10);
            int c = argument(p, 12);
            switch (argument(p, 17)) {
                case 3:
                    return machine.leastChild(p, true) >= 0 && machine.leastChild(p, false) < 0;
                case 6:
                    return things.readWaits(things.openingOf(p, a), c);
                case 7:
                    return things.writeWaits(things.openingOf(p, a), c);
                case 19:
                    return machine.clock < machine.sleep[p];
                case 21:
                    return machine.randoms == 0;
                default:
                    return false;
            }
        }

        /** An outside event: whether it was taken. */
        boolean come(int kind, long a, int b) {
            boolean taken;
            int p = (int) a & 15;
            switch (kind) {
                case Events.SWITCH:
                    taken = machine.status(p) == Machine.READY;
                    if (taken) {
                        machine.makeCurrent(p);
                    }
                    break;
                case Events.TYPED:
                    taken = things.type(a, b);
                    break;
                case Events.SIGNAL:
                    int status = machine.status(p);
                    taken = b < Machine.SIGNALS && (status == Machine.READY || status == Machine.WAITING);
                    if (taken) {
                        self[p * Machine.ROW + Machine.PENDING] |= 1 << b;
                    }
                    break;
                case Events.CLOCK:
                    taken = true;
                    machine.clock += a;
                    break;
                default:
                    taken = machine.addRandom((int) a);
                    break;
            }
            settle();
            return taken;
        }

        // ---- calls

        private int argument(int p, int r) {
            return reg[p * Machine.REGISTERS + r];
        }

        /** Ends a call with its answer: 0, or a signal. */
        private int answer(int p, long it) {
            if (it == FRAMELESS) {
                return NO_FRAME;
            }
            if (it == WAITS) {
                self[p * Machine.ROW + Machine.STATUS] = Machine.WAITING;
                machine.waiting++;
            } else if (it != SILENT) {
                reg[p * Machine.REGISTERS + 10] = (int) it;
                reg[p * Machine.REGISTERS + Machine.PLACE] += 4;
            }
            return 0;
        }

        private long answerOf(int p) {
            int a = argument(p, 10);
            int b = argument(p, 11);
            int c = argument(p, 12);
            switch (argument(p, 17)) {
                case 0:
                    machine.finish(p, a & 255);
                    return SILENT;
                case 1:
                    return fork(p);
                case 2:
                    return exec(p, a);
                case 3:
                    return waitForChild(p);
                case 4:
                    return p;
                case 5:
                    return pipe(p, a);
                case 6:
                    return read(p, a, b, c);
                case 7:
                    return write(p, a, b, c);
                case 8:
                    return close(p, a);
                case 9:
                    return duplicate(p, a, b);
                case 10:
                    return open(p, a, b);
                case 11:
                    return unlink(p, a);
                case 12:
                    return seek(p, a, b, c);
                case 13:
                    return rename(p, a, b);
                case 14:
                    return grow(p, a);
                case 15:
                    machine.makeCurrent(machine.nextReady(p));
                    return 0;
                case 16:
                    return signal(a, b);
                case 17:
                    return handle(p, a, b);
                case 18:
                    return back(p);
                case 19:
                    return sleep(p, a);
                case 20:
                    reg[p * Machine.REGISTERS + 11] = (int) (machine.clock >> 32);
                    return (int) machine.clock;
                case 21:
                    return mustWait(p) ? WAITS : machine.takeRandom();
                default:
                    return UNKNOWN;
            }
        }

        private long fork(int p) {
            for (int child = 0; child < Machine.PROCESSES; child++) {
                if (machine.status(child) == Machine.ABSENT) {
                    machine.fork(p, child);
                    things.share(p, child);
                    return child;
                }
            }
            return FULL;
        }

        private long exec(int p, int a) {
            Program program = a < 0 || a >= programs.length ? null : programs[a];
            if (program == null) {
                return MISSING;
            }
            if (machine.framesFree() < Machine.pagesFor(program)) {
                return FULL;
            }
            machine.dropPages(p);
            machine.load(p, program);
            return SILENT;
        }

        private long waitForChild(int p) {
            if (machine.leastChild(p, true) < 0) {
                return NONE;
            }
            int child = machine.leastChild(p, false);
            if (child < 0) {
                return WAITS;
            }
            int code = self[child * Machine.ROW + Machine.CODE];
            machine.makeAbsent(child);
            return child + 256 * code;
        }

        private long pipe(int p, int a) {
            if ((a & 3) != 0) {
                return INVALID;
            }
            if (!machine.mayAll(p, a, 8, Machine.WRITE)) {
                return ADDRESS;
            }
            int first = things.freeLink(p, 0);
            int second = first < 0 ? -1 : things.freeLink(p, first + 1);
            int pipe = things.freePipe();
            if (second < 0 || pipe < 0 || things.openingsFree() < 2) {
                return FULL;
            }
            if (machine.framesFor(p, a, 8) > machine.framesFree()) {
                return FRAMELESS;
            }
            machine.own(p, a);
            machine.own(p, a + 4);
            things.emptyPipe(pipe);
            things.linkTo(p, first, things.open(Things.READS, pipe, Things.READ));
            things.linkTo(p, second, things.open(Things.WRITES, pipe, Things.WRITE));
            machine.put(p, a, -1, first);
            machine.put(p, a + 4, -1, second);
            machine.noteWrite(p, a, 8);
            return 0;
        }

        private long read(int p, int d, int address, int n) {
            if (n < 0 || n > MOST_BYTES) {
                return INVALID;
            }
            if (!machine.mayAll(p, address, n, Machine.WRITE)) {
                return ADDRESS;
            }
            int o = things.openingOf(p, d);
            if (o < 0 || (things.of(o, Things.RIGHTS) & Things.READ) == 0) {
                return BAD;
            }
            if (things.readWaits(o, n)) {
                return WAITS;
            }
            int coming = things.coming(o, n);
            if (machine.framesFor(p, address, coming) > machine.framesFree()) {
                return FRAMELESS;
            }
            if (coming > 0) {
                machine.own(p, address);
                machine.own(p, address + coming - 1);
            }
            for (int i = 0; i < coming; i++) {
                machine.put(p, address + i, 255, things.comingByte(o, i));
            }
            machine.noteWrite(p, address, coming);
            things.taken(o, n, coming);
            return coming;
        }

        private long write(int p, int d, int address, int n) {
            if (n < 0 || n > MOST_BYTES) {
                return INVALID;
            }
            if (!machine.mayAll(p, address, n, Machine.READ)) {
                return ADDRESS;
            }
            int o = things.openingOf(p, d);
            if (o < 0 || (things.of(o, Things.RIGHTS) & Things.WRITE) == 0) {
                return BAD;
            }
            int kind = things.of(o, Things.KIND);
            if (things.isBroken(o)) {
                return BROKEN;
            }
            int place = kind == Things.FILE ? things.writingPlace(o) : 0;
            if (n > 0 && place + n > Things.ROOM) {
                return LONG;
            }
            if (things.writeWaits(o, n)) {
                return WAITS;
            }
            if (kind == Things.FILE && n > 0) {
                things.stretch(o, place, n);
            }
            for (int i = 0; i < n; i++) {
                int v = machine.byteAt(p, address + i);
                if (kind == Things.FILE) {
                    things.putFiled(o, place + i, v);
                } else if (kind == Things.CONSOLE) {
                    things.show(v);
                } else {
                    things.putPiped(o, v);
                }
            }
            return n;
        }

        private long close(int p, int d) {
            if (things.openingOf(p, d) < 0) {
                return BAD;
            }
            things.close(p, d);
            return 0;
        }

        private long duplicate(int p, int a, int b) {
            if (b < -1 || b >= Things.LINKS) {
                return INVALID;
            }
            int o = things.openingOf(p, a);
            if (o < 0) {
                return BAD;
            }
            int d = b < 0 ? things.freeLink(p, 0) : b;
            if (d < 0) {
                return FULL;
            }
            if (d != a) {
                things.close(p, d);
                things.linkTo(p, d, o);
            }
            return d;
        }

        /** Reads the name at an address: 0, ADDRESS or INVALID. */
        private int readName(int p, int address, byte[] into) {
            int length = -1;
            boolean good = true;
            Arrays.fill(into, (byte) 0);
            for (int i = 0; i < into.length && length < 0; i++) {
                if (!machine.may(p, address + i, Machine.READ)) {
                    return ADDRESS;
                }
                int c = machine.byteAt(p, address + i);
                if (c == 0) {
                    length = i;
                } else {
                    good = good && c >= 33 && c <= 126;
                    into[i] = (byte) c;
                }
            }
            return good && length > 0 ? 0 : INVALID;
        }

        private long open(int p, int address, int how) {
            boolean writes = (how & Things.WRITE) != 0;
            if (how < 1 || how > 63 || (how & 3) == 0 || (how & Things.APPEND) != 0 && !writes
                    || (how & NEW) != 0 && (how & MAKE) == 0 || (how & EMPTY) != 0 && !writes) {
                return INVALID;
            }
            int fault = readName(p, address, name);
            if (fault != 0) {
                return fault;
            }
            int file = things.fileNamed(name);
            if (file < 0 && (how & MAKE) == 0) {
                return MISSING;
            }
            if (file >= 0 && (how & NEW) != 0) {
                return THERE;
            }
            int d = things.freeLink(p, 0);
            boolean made = file < 0;
            if (made) {
                file = things.freeFile();
            }
            if (d < 0 || file < 0 || things.openingsFree() == 0) {
                return FULL;
            }
            if (made) {
                things.giveName(file, name);
            }
            if (made || (how & EMPTY) != 0) {
                things.emptyFile(file);
            }
            things.linkTo(p, d, things.open(Things.FILE, file, how & 7));
            return d;
        }

        private long unlink(int p, int address) {
            int fault = readName(p, address, name);
            if (fault != 0) {
                return fault;
            }
            int file = things.fileNamed(name);
            if (file < 0) {
                return MISSING;
            }
            things.loseName(file);
            return 0;
        }

        private long seek(int p, int d, int by, int from) {
            if (from < 0 || from > 2) {
                return INVALID;
            }
            int o = things.openingOf(p, d);
            if (o < 0 || things.of(o, Things.KIND) != Things.FILE) {
                return BAD;
            }
            long place = by;
            if (from > 0) {
                place += from == 1 ? things.of(o, Things.POSITION) : things.amount(o);
            }
            if (place < 0 || place > Things.ROOM) {
                return BAD;
            }
            things.seek(o, (int) place);
            return place;
        }

        private long rename(int p, int a, int b) {
            int fault = readName(p, a, name);
            if (fault == 0) {
                fault = readName(p, b, otherName);
            }
            if (fault != 0) {
                return fault;
            }
            int file = things.fileNamed(name);
            if (file < 0) {
                return MISSING;
            }
            int other = things.fileNamed(otherName);
            if (other >= 0) {
                things.loseName(other);
            }
            things.giveName(file, otherName);
            return 0;
        }

        private long grow(int p, int to) {
            int heap = self[p * Machine.ROW + Machine.HEAP];
            int old = self[p * Machine.ROW + Machine.HEAP_END];
            if (to < heap || to > LARGEST_HEAP) {
                return INVALID;
            }
            int had = (old + Program.PAGE - 1) / Program.PAGE;
            int has = (to + Program.PAGE - 1) / Program.PAGE;
            if (has - had > machine.framesFree()) {
                return FULL;
            }
            machine.addPages(p, had, has - had, Machine.READ | Machine.WRITE);
            for (int k = has; k < had; k++) {
                machine.dropPage(p, k);
            }
            self[p * Machine.ROW + Machine.HEAP_END] = to;
            return old;
        }

        private long signal(int a, int b) {
            if (a < 0 || a >= Machine.PROCESSES || b < 1 || b >= Machine.SIGNALS) {
                return INVALID;
            }
            if (machine.status(a) == Machine.ABSENT || machine.status(a) == Machine.ENDED) {
                return NONE;
            }
            self[a * Machine.ROW + Machine.PENDING] |= 1 << b;
            return 0;
        }

        private long handle(int p, int a, int b) {
            if (a < 1 || a >= Machine.SIGNALS || a == KILL) {
                return INVALID;
            }
            int old = machine.handler[p * Machine.SIGNALS + a];
            machine.handler[p * Machine.SIGNALS + a] = b;
            return old;
        }

        private long back(int p) {
            if (self[p * Machine.ROW + Machine.WITHIN] == 0) {
                return INVALID;
            }
            System.arraycopy(machine.saved, p * Machine.REGISTERS, reg, p * Machine.REGISTERS, Machine.REGISTERS);
            self[p * Machine.ROW + Machine.WITHIN] = 0;
            return SILENT;
        }

        private long sleep(int p, int a) {
            if (machine.sleep[p] < 0) {
                machine.sleep[p] = machine.clock + (a & 0xffffffffL);
            }
            if (machine.clock < machine.sleep[p]) {
                return WAITS;
            }
            machine.sleep[p] = Machine.NOTHING;
            return 0;
        }
    }

    /** What came from outside, with its counts, then what is scheduled; and the log of these. */
    private static final class Events {
        static final int SWITCH = 0;
        static final int TYPED = 1;
        static final int SIGNAL = 2;
        static final int CLOCK = 3;
        static final int RANDOM = 4;
        static final int MOST = 2048;
        private static final int REPEAT = 5;
        private static final int SAME = 8;
        private static final long LARGEST = 1L << 40;
        private static final int LONGEST_VARINT = 7;
        private static final int LOOKED_BACK = 20;
        private static final int LARGEST_SIGNAL = 31;
        private static final int MOST_TYPED = 8;

        final int[] kind = new int[MOST];
        private final long[] at = new long[MOST];
        final long[] a = new long[MOST];
        final int[] b = new int[MOST];
        // The first of these are the recording; those behind, up to total, are scheduled.
        int recorded;
        int total;
        private byte[] row = new byte[0];
        private int place;
        private int stop;
        private int fault;
        private int faultPlace;

        static boolean isEvent(int kind, long a, int b) {
            switch (kind) {
                case SWITCH:
                    return a >= 0 && a < Machine.PROCESSES;
                case TYPED:
                    return b >= 1 && b <= MOST_TYPED;
                case SIGNAL:
                    return a >= 0 && a < Machine.PROCESSES && b >= 1 && b <= LARGEST_SIGNAL;
                case CLOCK:
                    return a >= 0 && a <= LARGEST;
                default:
                    return kind == RANDOM;
            }
        }

        /** What counts of a. */
        static long first(int kind, long a, int b) {
            if (kind == TYPED && b < MOST_TYPED) {
                return a & (1L << 8 * b) - 1;
            }
            return kind == RANDOM ? a & 0xffffffffL : a;
        }

        /** What counts of b. */
        static int second(int kind, int b) {
            return kind == TYPED || kind == SIGNAL ? b : 0;
        }

        void clear() {
            recorded = 0;
            total = 0;
        }

        /** Puts one behind all: whether there was room. */
        boolean add(int newKind, long newAt, long newA, int newB) {
            if (total >= MOST) {
                return false;
            }
            kind[total] = newKind;
            at[total] = newAt;
            a[total] = newA;
            b[total] = newB;
            total++;
            return true;
        }

        /** Whether event i, one of the recording or scheduled, belongs to a count. */
        boolean isAt(int i, int count) {
            return i >= 0 && i < total && at[i] == count;
        }

        int recordedBefore(int count) {
            int n = 0;
            while (n < recorded && at[n] < count) {
                n++;
            }
            return n;
        }

        long told(int k, int what) {
            if (k < 0 || k >= recorded) {
                return -1;
            }
            switch (what) {
                case 0:
                    return kind[k];
                case 1:
                    return at[k];
                case 2:
                    return a[k];
                case 3:
                    return b[k];
                default:
                    return -1;
            }
        }

        private long difference(int i) {
            return i <= 0 ? at[0] : at[i] - at[i - 1];
        }

        private boolean bringsSame(int i, int j) {
            return kind[i] == kind[j] && a[i] == a[j] && b[i] == b[j];
        }

        // ---- packing

        /** Packs the recording: how many bytes. */
        int writeLog(byte[] into) {
            row = into;
            place = 0;
            putVarint(recorded);
            int i = 0;
            while (i < recorded) {
                int n = likeBefore(i);
                if (n == 0) {
                    putEntry(i);
                    i++;
                } else {
                    putByte(REPEAT | (n <= 15 ? n << 4 : 0));
                    if (n > 15) {
                        putVarint(n);
                    }
                    i += n;
                }
            }
            return place;
        }

        /** How many events from i on are like the one before i in all. */
        private int likeBefore(int i) {
            int n = 0;
            while (i > 0 && i + n < recorded && bringsSame(i + n, i - 1) && difference(i + n) == difference(i - 1)) {
                n++;
            }
            return n;
        }

        private void putEntry(int i) {
            boolean same = difference(i) == (i == 0 ? 0 : difference(i - 1));
            int again = kind[i] == TYPED ? sameTyped(i) : kind[i] == CLOCK ? sameClock(i) : 0;
            int x = 0;
            if (kind[i] == SWITCH || kind[i] == SIGNAL) {
                x = (int) a[i];
            } else if (kind[i] == TYPED) {
                x = again > 0 ? 0 : b[i];
            } else if (kind[i] == CLOCK) {
                x = again;
            }
            putByte(kind[i] | (same ? SAME : 0) | x << 4);
            if (!same) {
                putVarint(difference(i));
            }
            if (kind[i] == TYPED && again > 0) {
                putVarint(again);
            } else if (kind[i] == TYPED) {
                putBytes(a[i], b[i]);
            } else if (kind[i] == SIGNAL) {
                putByte(b[i]);
            } else if (kind[i] == CLOCK && again == 0) {
                putVarint(a[i]);
            } else if (kind[i] == RANDOM) {
                putBytes(a[i], 4);
            }
        }

        /** Which of the latest TYPED events before has the same two or more bytes; 0 for none. */
        private int sameTyped(int i) {
            int k = 0;
            for (int j = i - 1; j >= 0 && k < LOOKED_BACK && b[i] > 1; j--) {
                if (kind[j] == TYPED) {
                    k++;
                    if (bringsSame(i, j)) {
                        return k;
                    }
                }
            }
            return 0;
        }

        private int sameClock(int i) {
            int j = latest(CLOCK, 1, i);
            return j >= 0 && a[j] == a[i] ? 1 : 0;
        }

        /** The k-th event of a kind before one, or -1. */
        private int latest(int wanted, long k, int before) {
            long left = k;
            for (int j = before - 1; j >= 0; j--) {
                if (kind[j] == wanted) {
                    left--;
                    if (left == 0) {
                        return j;
                    }
                }
            }
            return -1;
        }

        private void putByte(int v) {
            if (place < row.length) {
                row[place] = (byte) v;
                place++;
            }
        }

        private void putBytes(long v, int n) {
            for (int i = n - 1; i >= 0; i--) {
                putByte((int) (v >> 8 * i));
            }
        }

        private void putVarint(long v) {
            long rest = v;
            for (int i = 0; i < LONGEST_VARINT && rest > 127; i++) {
                putByte((int) (rest & 127) | 128);
                rest >>= 7;
            }
            putByte((int) rest);
        }

        // ---- reading

        /** Reads a log, all events being scheduled: how many there are, or -1 - (the fault + 8 * its place). */
        int readLog(byte[] from, int length) {
            row = from;
            stop = Math.min(length, from.length);
            place = 0;
            fault = 0;
            clear();
            long said = readVarint();
            if (said > MOST) {
                blame(6, 0);
            }
            for (int left = MOST; left > 0 && fault == 0 && total < said; left--) {
                readEntry(said);
            }
            if (place < stop) {
                blame(7, place);
            }
            return fault == 0 ? total : -1 - (fault + 8 * faultPlace);
        }

        private void blame(int what, int where) {
            if (fault == 0) {
                fault = what;
                faultPlace = where;
            }
        }

        private int readByte() {
            if (place >= stop) {
                blame(2, stop);
                return 0;
            }
            place++;
            return row[place - 1] & 255;
        }

        private long readVarint() {
            long v = 0;
            for (int i = 0; i < LONGEST_VARINT && fault == 0; i++) {
                int it = readByte();
                v |= (long) (it & 127) << 7 * i;
                if (it < 128) {
                    if (i > 0 && it == 0 || v > LARGEST) {
                        blame(3, place - 1);
                    }
                    return v;
                }
            }
            blame(3, place - 1);
            return 0;
        }

        private static boolean isHead(int entry, int x, boolean same) {
            switch (entry) {
                case SWITCH:
                case SIGNAL:
                    return true;
                case TYPED:
                    return x <= MOST_TYPED;
                case CLOCK:
                    return x <= 1;
                case RANDOM:
                    return x == 0;
                case REPEAT:
                    return !same;
                default:
                    return false;
            }
        }

        private void readEntry(long said) {
            int head = place;
            int it = readByte();
            int entry = it & 7;
            int x = it >> 4;
            boolean same = (it & SAME) != 0;
            if (!isHead(entry, x, same)) {
                blame(1, head);
            }
            if (fault != 0) {
                return;
            }
            if (entry == REPEAT) {
                readRepeat(head, x, said);
                return;
            }
            long difference = same ? total == 0 ? 0 : difference(total - 1) : readVarint();
            if (fault == 0) {
                readBrought(head, entry, x, difference + (total == 0 ? 0 : at[total - 1]));
            }
        }

        private void readRepeat(int head, int x, long said) {
            if (total == 0) {
                blame(4, head);
                return;
            }
            int first = place;
            long n = x == 0 ? readVarint() : x;
            if (n == 0) {
                blame(5, first);
            }
            if (total + n > said) {
                blame(6, head);
            }
            long difference = difference(total - 1);
            for (long left = n; left > 0 && fault == 0; left--) {
                add(kind[total - 1], at[total - 1] + difference, a[total - 1], b[total - 1]);
            }
        }

        private void readBrought(int head, int entry, int x, long when) {
            long newA = x;
            int newB = 0;
            int first = place;
            if (entry == TYPED && x == 0) {
                long k = readVarint();
                if (k == 0) {
                    blame(5, first);
                }
                int j = latest(TYPED, k, total);
                if (j < 0) {
                    blame(4, head);
                } else {
                    newA = a[j];
                    newB = b[j];
                }
            } else if (entry == TYPED) {
                newA = readBytes(x);
                newB = x;
            } else if (entry == SIGNAL) {
                newB = readByte();
                if (newB < 1 || newB > LARGEST_SIGNAL) {
                    blame(5, first);
                }
            } else if (entry == CLOCK && x == 1) {
                int j = latest(CLOCK, 1, total);
                if (j < 0) {
                    blame(4, head);
                } else {
                    newA = a[j];
                }
            } else if (entry == CLOCK) {
                newA = readVarint();
            } else if (entry == RANDOM) {
                newA = readBytes(4);
            }
            if (fault == 0) {
                add(entry, when, newA, newB);
            }
        }

        private long readBytes(int n) {
            long v = 0;
            for (int i = 0; i < n && fault == 0; i++) {
                v = v << 8 | readByte();
            }
            return v;
        }
    }

    /** Goes through counts: the live machine, copies of it to go back to, and what each tick wrote. */
    private static final class Timeline {
        static final int LAST = 60000;
        // Copies stand at multiples of a spacing that doubles when there is no room for more of them.
        private static final int COPIES = 8;
        private static final int FIRST_SPACING = 256;

        final Program[] programs = new Program[PROGRAMS];
        Events events = new Events();
        // A log is read into these; they are those of the recording then.
        Events spareEvents = new Events();
        final Machine machine = new Machine();
        private final Kernel kernel = new Kernel(machine, programs);
        // What the tick from each count wrote.
        private final int[] writes = new int[LAST];
        boolean booted;
        // A copy is the machine as a tick left it, before the events of its count.
        private final Machine[] copy = new Machine[COPIES];
        private final int[] copyAt = new int[COPIES];
        private int copies;
        private int spacing;
        int now;
        int end;
        // How many events of the recording have come up to now.
        private int came;
        // A scheduled event could not be taken, and no run has told it yet.
        private boolean missed;
        int why;

        Timeline() {
            for (int i = 0; i < COPIES; i++) {
                copy[i] = new Machine();
            }
        }

        // ---- starting

        void startWithout(Program[] from, int p) {
            events.clear();
            start(from, p);
        }

        /** With the spare events, which are scheduled. */
        void startWith(Program[] from, int p) {
            Events old = events;
            events = spareEvents;
            spareEvents = old;
            start(from, p);
            takeScheduled();
        }

        private void start(Program[] from, int p) {
            for (int i = 0; i < programs.length; i++) {
                programs[i] = from[i];
            }
            machine.start(programs[p]);
            booted = true;
            now = 0;
            end = 0;
            came = 0;
            missed = false;
            copies = 0;
            spacing = FIRST_SPACING;
            keepCopy();
        }

        private void keepCopy() {
            if (copies < COPIES) {
                copy[copies].become(machine);
                copyAt[copies] = now;
                copies++;
            }
        }

        /** Every second copy goes; the objects stay, to be used again. */
        private void thinOut() {
            for (int i = 1; 2 * i < COPIES; i++) {
                Machine it = copy[i];
                copy[i] = copy[2 * i];
                copy[2 * i] = it;
                copyAt[i] = copyAt[2 * i];
            }
            copies = COPIES / 2;
            spacing *= 2;
        }

        // ---- going on

        /** A tick, and the events that come then. */
        private void advance() {
            kernel.tick();
            if (now < writes.length) {
                writes[now] = machine.written;
            }
            now++;
            if (now % Math.max(1, spacing) == 0 && now > copyAt[copies - 1]) {
                if (copies == COPIES) {
                    thinOut();
                }
                if (now % Math.max(1, spacing) == 0) {
                    keepCopy();
                }
            }
            takeRecorded();
            if (now > end) {
                end = now;
                takeScheduled();
            }
        }

        private void takeRecorded() {
            while (came < events.recorded && events.isAt(came, now)) {
                kernel.come(events.kind[came], events.a[came], events.b[came]);
                came++;
            }
        }

        private void takeScheduled() {
            while (events.recorded < events.total && events.isAt(events.recorded, end)) {
                int i = events.recorded;
                if (kernel.come(events.kind[i], events.a[i], events.b[i])) {
                    events.recorded++;
                    came++;
                } else {
                    events.total = events.recorded;
                    missed = true;
                }
            }
        }

        int come(int kind, long a, int b) {
            if (now != end || events.recorded < events.total) {
                return 2;
            }
            if (events.recorded >= Events.MOST) {
                return 3;
            }
            if (!kernel.come(kind, a, b)) {
                return 1;
            }
            events.add(kind, now, a, b);
            events.recorded = events.total;
            came = events.recorded;
            return 0;
        }

        /** Up to n ticks: how many it were. */
        int ticks(int n, Condition[] breaks) {
            if (missed) {
                missed = false;
                why = 5;
                return 0;
            }
            for (int made = 0; made < n; made++) {
                why = stops();
                if (why != 0) {
                    return made;
                }
                rememberAll(breaks);
                advance();
                why = missed ? 5 : hit(breaks);
                missed = false;
                if (why != 0) {
                    return made + 1;
                }
            }
            why = 0;
            return n;
        }

        private int stops() {
            if (now >= LAST) {
                return 4;
            }
            if (machine.current >= 0) {
                return 0;
            }
            return machine.waiting > 0 ? 1 : 2;
        }

        private int hit(Condition[] breaks) {
            for (int k = 0; k < breaks.length; k++) {
                if (breaks[k] != null && breaks[k].worth(machine, now) != 0) {
                    return 3 + 8 * k;
                }
            }
            return 0;
        }

        private void rememberAll(Condition[] breaks) {
            for (int k = 0; k < breaks.length; k++) {
                if (breaks[k] != null) {
                    breaks[k].remember(machine, now);
                }
            }
        }

        // ---- going to a count

        void moveTo(int c) {
            int i = copyUpTo(c);
            if (c < now || copyAt[i] > now) {
                restore(i);
            }
            for (int left = c - now; left > 0; left--) {
                advance();
            }
        }

        /** The latest copy that is not behind a count. */
        private int copyUpTo(int c) {
            int i = copies - 1;
            while (i > 0 && copyAt[i] > c) {
                i--;
            }
            return Math.max(0, i);
        }

        private void restore(int i) {
            machine.become(copy[i]);
            now = copyAt[i];
            came = events.recordedBefore(now);
            takeRecorded();
        }

        int forgetBehind() {
            int gone = end - now;
            end = now;
            events.recorded = came;
            events.total = came;
            missed = false;
            copies = copyUpTo(now) + 1;
            return gone;
        }

        /** The greatest count below now at which a condition holds, or -1; now is another one then. */
        int latest(Condition it) {
            int upper = now - 1;
            for (int left = COPIES; left > 0 && upper >= 0; left--) {
                // The first count of a part is asked with the part before, where old is known.
                int i = copyUpTo(Math.max(0, upper - 1));
                restore(i);
                int first = now;
                int found = first == 0 && holdsAtFirst(it) ? 0 : -1;
                for (int more = upper - now; more > 0; more--) {
                    it.remember(machine, now);
                    advance();
                    if (it.worth(machine, now) != 0) {
                        found = now;
                    }
                }
                if (found >= 0) {
                    return found;
                }
                upper = first == 0 ? -1 : first;
            }
            return -1;
        }

        private boolean holdsAtFirst(Condition it) {
            it.remember(machine, now);
            return it.worth(machine, now) != 0;
        }

        int latestWrite(int p, int address) {
            for (int c = Math.min(now, writes.length) - 1; c >= 0; c--) {
                int from = writes[c] >> 10 & 65535;
                if (writes[c] >> 26 == p && address >= from && address < from + (writes[c] & 1023)) {
                    return c;
                }
            }
            return -1;
        }

        long told(int what) {
            switch (what) {
                case 0:
                    return now;
                case 1:
                    return end;
                case 2:
                    return machine.current;
                case 3:
                    return events.recorded;
                case 4:
                    return came;
                default:
                    return events.total - events.recorded;
            }
        }
    }

    /** A break: a condition, compiled to a code for a stack. */
    private static final class Condition {
        private static final int LONGEST = 120;
        private static final int MOST_PARTS = 40;
        private static final int DEEPEST = 8;

        // Tokens; a sign is told by what it does.
        private static final int END = 0;
        private static final int NUMBER = 1;
        private static final int WORD = 2;
        private static final int SIGN = 3;
        private static final int BAD = 4;

        // What is done: signs between two, in the order of RANK,
        private static final int EITHER = 1;
        private static final int BOTH = 2;
        private static final int EQUAL = 3;
        private static final int OTHER = 4;
        private static final int LESS = 5;
        private static final int LESS_EQUAL = 6;
        private static final int MORE = 7;
        private static final int MORE_EQUAL = 8;
        private static final int OR = 9;
        private static final int XOR = 10;
        private static final int AND = 11;
        private static final int LEFT = 12;
        private static final int RIGHT = 13;
        private static final int ADD = 14;
        private static final int SUBTRACT = 15;
        private static final int MULTIPLY = 16;
        private static final int DIVIDE = 17;
        private static final int REMAINDER = 18;
        // before one,
        private static final int NOT = 19;
        private static final int NEGATE = 20;
        private static final int INVERT = 21;
        // what waits for its ) or ],
        private static final int OPEN = 22;
        private static final int OLD = 23;
        private static final int CHANGED = 24;
        private static final int WORD_AT = 25;
        private static final int HALF_AT = 26;
        private static final int BYTE_AT = 27;
        private static final int CLOSE = 28;
        private static final int CLOSE_SQUARE = 29;
        // and the rest.
        private static final int LITERAL = 30;
        private static final int REGISTER = 31;
        private static final int PROCESS = 32;
        private static final int COUNT = 33;
        private static final int IF_NOT = 34;
        private static final int IF = 35;
        private static final int TRUTH = 36;
        private static final int UNKNOWN = 0;
        private static final int[] RANK = {0, 1, 2, 3, 3, 3, 3, 3, 3, 4, 5, 6, 7, 7, 8, 8, 9, 9, 9, 10, 10, 10};

        private final int[] code = new int[4 * MOST_PARTS];
        private final long[] argument = new long[4 * MOST_PARTS];
        private int codes;
        private final long[] stack = new long[MOST_PARTS + 1];
        private int top;
        // Signs that wait while a text is read, and where the code has what belongs to them.
        private final int[] sign = new int[MOST_PARTS + 1];
        private final int[] signAt = new int[MOST_PARTS + 1];
        // Where the code of each e of old and changed begins and ends, and its value at the count before.
        private final int[] oldFrom = new int[MOST_PARTS];
        private final int[] oldTo = new int[MOST_PARTS];
        private final long[] oldValue = new long[MOST_PARTS];
        int olds;
        private boolean failed;
        private byte[] source = new byte[0];
        private int stop;
        private int at;
        private int kind;
        private int from;
        private long number;
        private int fault;
        private int parts;

        /** 0, or a fault + 8 * its place. */
        int compile(byte[] row, int length) {
            source = row;
            stop = Math.min(length, row.length);
            for (int i = 0; i < stop; i++) {
                if (i >= LONGEST || row[i] < 32 || row[i] > 126) {
                    return 1 + 8 * i;
                }
            }
            at = 0;
            codes = 0;
            top = 0;
            olds = 0;
            parts = 0;
            fault = 0;
            read();
            return fault;
        }

        private void read() {
            boolean operand = true;
            boolean going = true;
            next();
            for (int left = LONGEST + 1; left > 0 && going && fault == 0; left--) {
                if (operand) {
                    operand = takeOperand();
                } else if (kind == END) {
                    going = false;
                    popTo(0);
                    if (top > 0) {
                        blame(1);
                    }
                } else {
                    operand = takeOperator();
                }
            }
        }

        private void blame(int what) {
            if (fault == 0) {
                fault = what + 8 * from;
            }
        }

        // ---- tokens

        private static boolean isLetter(int c) {
            return c >= 'a' && c <= 'z' || c >= 'A' && c <= 'Z';
        }

        private static boolean isDigit(int c) {
            return c >= '0' && c <= '9';
        }

        private void next() {
            while (at < stop && source[at] == ' ') {
                at++;
            }
            from = at;
            if (at >= stop) {
                kind = END;
                return;
            }
            int c = source[at];
            if (isLetter(c) || isDigit(c)) {
                while (at < stop && (isLetter(source[at]) || isDigit(source[at]))) {
                    at++;
                }
                kind = isLetter(c) ? WORD : NUMBER;
                if (kind == NUMBER) {
                    readNumber();
                }
                return;
            }
            int following = at + 1 < stop ? source[at + 1] : 0;
            int two = pair(c, following);
            number = two != 0 ? two : alone(c);
            kind = number != 0 ? SIGN : BAD;
            at += two != 0 ? 2 : 1;
        }

        private void readNumber() {
            boolean hex = at - from > 2 && source[from] == '0' && source[from + 1] == 'x';
            number = 0;
            for (int i = hex ? from + 2 : from; i < at; i++) {
                int c = source[i];
                int digit = isDigit(c) ? c - '0' : hex && c >= 'a' && c <= 'f' ? c - 'a' + 10 : -1;
                number = number * (hex ? 16 : 10) + digit;
                if (digit < 0 || number > 0xffffffffL) {
                    kind = BAD;
                    return;
                }
            }
        }

        private static int pair(int c, int following) {
            if (following == '=') {
                return c == '=' ? EQUAL : c == '!' ? OTHER : c == '<' ? LESS_EQUAL : c == '>' ? MORE_EQUAL : 0;
            }
            if (c != following) {
                return 0;
            }
            return c == '|' ? EITHER : c == '&' ? BOTH : c == '<' ? LEFT : c == '>' ? RIGHT : 0;
        }

        private static int alone(int c) {
            switch (c) {
                case '<':
                    return LESS;
                case '>':
                    return MORE;
                case '|':
                    return OR;
                case '^':
                    return XOR;
                case '&':
                    return AND;
                case '+':
                    return ADD;
                case '-':
                    return SUBTRACT;
                case '*':
                    return MULTIPLY;
                case '/':
                    return DIVIDE;
                case '%':
                    return REMAINDER;
                case '!':
                    return NOT;
                case '~':
                    return INVERT;
                case '(':
                    return OPEN;
                case ')':
                    return CLOSE;
                case '[':
                    return WORD_AT;
                case ']':
                    return CLOSE_SQUARE;
                default:
                    return 0;
            }
        }

        private boolean isWord(String word) {
            return Op.stands(word, source, from, at - from);
        }

        /** What a word does; a register's number is left in number. */
        private int meaning() {
            if (isWord("pc")) {
                number = Machine.PLACE;
                return REGISTER;
            }
            if (source[from] == 'x') {
                number = Op.registerAt(source, from, at - from);
                return number >= 0 ? REGISTER : UNKNOWN;
            }
            if (isWord("pid")) {
                return PROCESS;
            }
            if (isWord("count")) {
                return COUNT;
            }
            if (isWord("byte")) {
                return BYTE_AT;
            }
            if (isWord("half")) {
                return HALF_AT;
            }
            if (isWord("old")) {
                return OLD;
            }
            return isWord("changed") ? CHANGED : UNKNOWN;
        }

        // ---- reading

        private void part() {
            parts++;
            if (parts > MOST_PARTS) {
                blame(3);
            }
        }

        /** How many signs from least to most wait. */
        private int waiting(int least, int most) {
            int n = 0;
            for (int i = 0; i < top; i++) {
                if (sign[i] >= least && sign[i] <= most) {
                    n++;
                }
            }
            return n;
        }

        /** A ( or [ opens: what is said there waits for its end. */
        private void opens(int what, int where) {
            part();
            if (waiting(OPEN, BYTE_AT) >= DEEPEST) {
                blame(4);
            }
            push(what, where);
        }

        private void push(int what, int where) {
            if (fault == 0 && top < sign.length) {
                sign[top] = what;
                signAt[top] = where;
                top++;
            }
        }

        private void emit(int what, long with) {
            if (fault == 0 && codes < code.length) {
                code[codes] = what;
                argument[codes] = with;
                codes++;
            }
        }

        /** Takes what begins an operand: whether one must still come. */
        private boolean takeOperand() {
            boolean more = false;
            if (kind == NUMBER) {
                part();
                emit(LITERAL, number);
            } else if (kind == WORD) {
                more = takeWord();
            } else if (kind == SIGN && (number == NOT || number == SUBTRACT || number == INVERT)) {
                part();
                push(number == SUBTRACT ? NEGATE : (int) number, 0);
                more = true;
            } else if (kind == SIGN && (number == OPEN || number == WORD_AT)) {
                opens((int) number, 0);
                more = true;
            } else {
                blame(1);
            }
            next();
            return more;
        }

        private boolean takeWord() {
            int what = meaning();
            boolean remembers = what == OLD || what == CHANGED;
            if (what == UNKNOWN || remembers && waiting(OLD, CHANGED) > 0) {
                blame(what == UNKNOWN ? 2 : 1);
                return false;
            }
            part();
            if (what == REGISTER || what == PROCESS || what == COUNT) {
                emit(what, number);
                return false;
            }
            if (fault != 0) {
                return false;
            }
            next();
            if (kind != SIGN || number != (remembers ? OPEN : WORD_AT)) {
                blame(1);
            }
            opens(what, olds);
            if (fault == 0 && remembers && olds < oldFrom.length) {
                if (what == OLD) {
                    emit(OLD, olds);
                }
                oldFrom[olds] = codes;
                olds++;
            }
            return true;
        }

        /** Takes what is behind an operand: whether one must come. */
        private boolean takeOperator() {
            boolean more = false;
            if (kind == SIGN && number >= EITHER && number <= REMAINDER) {
                int it = (int) number;
                part();
                popTo(RANK[it]);
                push(it, codes);
                if (it == EITHER || it == BOTH) {
                    emit(it == EITHER ? IF : IF_NOT, 0);
                }
                more = true;
            } else if (kind == SIGN && (number == CLOSE || number == CLOSE_SQUARE)) {
                takeClose(number == CLOSE_SQUARE);
            } else {
                blame(1);
            }
            next();
            return more;
        }

        private void takeClose(boolean square) {
            popTo(0);
            if (top == 0 || sign[top - 1] >= WORD_AT != square) {
                blame(1);
                return;
            }
            top--;
            int what = sign[top];
            if (what == OLD || what == CHANGED) {
                oldTo[signAt[top]] = codes;
            }
            if (what != OPEN && what != OLD) {
                emit(what, signAt[top]);
            }
        }

        private void popTo(int rank) {
            while (top > 0 && sign[top - 1] < OPEN && RANK[sign[top - 1]] >= rank) {
                top--;
                int what = sign[top];
                if (what == EITHER || what == BOTH) {
                    emit(TRUTH, 0);
                    argument[signAt[top]] = codes;
                } else {
                    emit(what, 0);
                }
            }
        }

        // ---- working

        /** Its value; 0 when it fails. */
        long worth(Machine machine, int count) {
            long v = evaluate(machine, count, 0, codes);
            return failed ? 0 : v;
        }

        /** The machine is as at the count before, for what is asked of old. */
        void remember(Machine machine, int count) {
            for (int j = 0; j < olds; j++) {
                long v = evaluate(machine, count, oldFrom[j], oldTo[j]);
                oldValue[j] = failed ? 0 : v;
            }
        }

        private long evaluate(Machine machine, int count, int begin, int ending) {
            failed = false;
            top = 0;
            for (int i = begin; i < ending && !failed; i++) {
                int what = code[i];
                if (what >= LITERAL && what <= COUNT) {
                    put(operand(machine, count, what, argument[i]));
                } else if (what == OLD) {
                    int j = (int) argument[i];
                    put(oldValue[j]);
                    i = Math.max(i, oldTo[j] - 1);
                } else if (top < 1 || what < NOT && top < 2) {
                    failed = true;
                } else if (what == IF || what == IF_NOT) {
                    if (stack[top - 1] != 0 == (what == IF)) {
                        stack[top - 1] = what == IF ? 1 : 0;
                        i = Math.max(i, (int) argument[i] - 1);
                    } else {
                        top--;
                    }
                } else if (what < NOT) {
                    top--;
                    stack[top - 1] = joined(what, stack[top - 1], stack[top]);
                } else {
                    stack[top - 1] = single(machine, what, (int) argument[i], stack[top - 1]);
                }
            }
            return top > 0 ? stack[0] : 0;
        }

        private void put(long v) {
            if (top < stack.length) {
                stack[top] = v;
                top++;
            }
        }

        private static long operand(Machine machine, int count, int what, long with) {
            switch (what) {
                case REGISTER:
                    return machine.current < 0 ? 0 : machine.registerOf(machine.current, (int) with);
                case PROCESS:
                    return machine.current;
                case COUNT:
                    return count;
                default:
                    return with;
            }
        }

        private long single(Machine machine, int what, int with, long v) {
            switch (what) {
                case NOT:
                    return v == 0 ? 1 : 0;
                case NEGATE:
                    return -v;
                case INVERT:
                    return ~v;
                case TRUTH:
                    return v != 0 ? 1 : 0;
                case CHANGED:
                    return v != oldValue[with] ? 1 : 0;
                default:
                    return inSpace(machine, what, v);
            }
        }

        private long inSpace(Machine machine, int what, long address) {
            int p = machine.current;
            int size = what == WORD_AT ? 4 : what == HALF_AT ? 2 : 1;
            if (p < 0 || address < 0 || address >= Machine.SPACE || address % size != 0
                    || !machine.may(p, (int) address, Machine.ANY)) {
                failed = true;
                return 0;
            }
            int a = (int) address;
            return size == 4 ? machine.wordAt(p, a) : size == 2 ? (short) machine.halfAt(p, a) : machine.byteAt(p, a);
        }

        private long joined(int what, long x, long y) {
            switch (what) {
                case EQUAL:
                    return x == y ? 1 : 0;
                case OTHER:
                    return x != y ? 1 : 0;
                case LESS:
                    return x < y ? 1 : 0;
                case LESS_EQUAL:
                    return x <= y ? 1 : 0;
                case MORE:
                    return x > y ? 1 : 0;
                case MORE_EQUAL:
                    return x >= y ? 1 : 0;
                case OR:
                    return x | y;
                case XOR:
                    return x ^ y;
                case AND:
                    return x & y;
                default:
                    return reckoned(what, x, y);
            }
        }

        private long reckoned(int what, long x, long y) {
            switch (what) {
                case LEFT:
                    return x << y;
                case RIGHT:
                    return x >> y;
                case ADD:
                    return x + y;
                case SUBTRACT:
                    return x - y;
                case MULTIPLY:
                    return x * y;
                default:
                    if (y == 0) {
                        failed = true;
                        return 0;
                    }
                    return what == DIVIDE ? x / y : x % y;
            }
        }
    }
}
