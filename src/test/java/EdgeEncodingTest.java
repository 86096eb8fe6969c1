/** The boundary cases that the document names of instructions: what operands may be, and the bits that they become. */
public final class EdgeEncodingTest {
    private static final Checks c = new Checks();
    private static final Texts t = new Texts(c);

    public static void main(String[] args) {
        threeRegisters();
        numbers();
        shiftNumbers();
        loads();
        stores();
        uppers();
        branches();
        jumps();
        atomics();
        orders();
        counters();
        alone();
        shortStackAddress();
        shortWords();
        shortNumbers();
        shortJumps();
        shortStackStep();
        shortUpper();
        shortShifts();
        shortSums();
        shortBranches();
        shortLeftShift();
        shortStackWords();
        shortMoves();
        registersInPlaces();
        others();
        addresses();
        loadedNumbers();
        c.finish();
    }

    /** The bits of e that a text like 5:4|2 names, from the higher ones on, put from a bit of a half downwards. */
    private static int spread(int e, String which, int top) {
        int bits = 0;
        int place = top;
        for (String part : which.split("\\|")) {
            String[] ends = part.split(":");
            for (int bit = Integer.parseInt(ends[0]); bit >= Integer.parseInt(ends[ends.length - 1]); bit--) {
                bits |= (e >> bit & 1) << place;
                place--;
            }
        }
        return bits;
    }

    private static void is(String line, int length, long bits) {
        StringBuilder due = new StringBuilder();
        for (int i = 0; i < length; i++) {
            due.append(String.format("%02x", bits >> 8 * i & 255));
        }
        t.makes(line, due.toString());
    }

    private static void threeRegisters() {
        c.sentence("instructions", "d, a, b: 51, by F and G: add 0 0, sub 0 32, sll 1 0, slt 2 0, sltu 3 0, xor 4 0,"
                + " srl 5 0, sra 5 32, or 6 0, and 7 0; mul mulh mulhsu mulhu div divu rem remu F 0 .. 7, G 1.");
        String[] names = {"add", "sub", "sll", "slt", "sltu", "xor", "srl", "sra", "or", "and", "mul", "mulh", "mulhsu",
            "mulhu", "div",
            "divu", "rem", "remu"};
        int[] f = {0, 0, 1, 2, 3, 4, 5, 5, 6, 7, 0, 1, 2, 3, 4, 5, 6, 7};
        int[] g = {0, 32, 0, 0, 0, 0, 0, 32, 0, 0, 1, 1, 1, 1, 1, 1, 1, 1};
        for (int i = 0; i < names.length; i++) {
            is(names[i] + " x31, x0, x17", 4, 51 | 31 << 7 | f[i] << 12 | 17 << 20 | (long) g[i] << 25);
            is(names[i] + " x0, x31, x1", 4, 51 | f[i] << 12 | 31 << 15 | 1 << 20 | (long) g[i] << 25);
            t.faults(1, names[i] + " x1, x2", names[i] + " x1, x2, x3, x4", names[i]);
            t.faults(3, names[i] + " x1, x2, 3");
        }
    }

    private static void numbers() {
        c.sentence("instructions", "e -2048 .. 2047 in bits 20 .. 31");
        String[] names = {"addi", "slti", "sltiu", "xori", "ori", "andi"};
        int[] f = {0, 2, 3, 4, 6, 7};
        for (int i = 0; i < names.length; i++) {
            for (int e : new int[] {-2048, -1, 0, 1, 2047}) {
                is(names[i] + " x31, x1, " + e, 4, 19 | 31 << 7 | f[i] << 12 | 1 << 15 | (e & 0xfffL) << 20);
            }
            t.faults(10, names[i] + " a0, a0, -2049", names[i] + " a0, a0, 2048", names[i] + " a0, a0, 4095");
        }
    }

    private static void shiftNumbers() {
        c.sentence("instructions", "slli F 1, srli 5, srai 5 and G 32: e 0 .. 31 in bits 20 .. 24.");
        String[] names = {"slli", "srli", "srai"};
        int[] f = {1, 5, 5};
        int[] g = {0, 0, 32};
        for (int i = 0; i < names.length; i++) {
            for (int e : new int[] {0, 1, 31}) {
                is(names[i] + " x31, x1, " + e, 4, 19 | 31 << 7 | f[i] << 12 | 1 << 15 | e << 20 | g[i] << 25);
            }
            t.faults(10, names[i] + " a0, a0, -1", names[i] + " a0, a0, 32");
        }
    }

    private static void loads() {
        c.sentence("instructions", "d, e(a): e -2048 .. 2047 in bits 20 .. 31: 3: lb F 0, lh 1, lw 2, lbu 4, lhu 5;"
                + " 103: jalr 0.");
        String[] names = {"lb", "lh", "lw", "lbu", "lhu", "jalr"};
        int[] f = {0, 1, 2, 4, 5, 0};
        for (int i = 0; i < names.length; i++) {
            for (int e : new int[] {-2048, -1, 0, 2047}) {
                int opcode = i == 5 ? 103 : 3;
                is(names[i] + " x31, " + e + "(x30)", 4, opcode | 31 << 7 | f[i] << 12 | 30 << 15 | (e & 0xfffL) << 20);
            }
            t.faults(10, names[i] + " a0, -2049(a0)", names[i] + " a0, 2048(a0)");
            t.faults(1, names[i] + " a0, (a0)", names[i] + " a0, 0", names[i] + " a0, 0(a0", names[i] + " a0, 0 a0");
        }
    }

    private static void stores() {
        c.sentence("instructions", "b, e(a): 35: sb 0, sh 1, sw 2: e likewise, its bits 5 .. 11 in G, 0 .. 4 in 7 .."
                + " 11.");
        String[] names = {"sb", "sh", "sw"};
        for (int f = 0; f < names.length; f++) {
            for (int e : new int[] {-2048, -1, 0, 31, 32, 2047}) {
                is(names[f] + " x31, " + e + "(x30)", 4,
                        35 | (e & 31) << 7 | f << 12 | 30 << 15 | 31 << 20 | (e >> 5 & 127L) << 25);
            }
            t.faults(10, names[f] + " a0, -2049(a0)", names[f] + " a0, 2048(a0)");
        }
    }

    private static void uppers() {
        c.sentence("instructions", "d, e: lui 55, auipc 23: e 0 .. 1048575 in bits 12 .. 31.");
        for (long e : new long[] {0, 1, 524288, 1048575}) {
            is("lui x31, " + e, 4, 55 | 31 << 7 | e << 12);
            is("auipc x31, " + e, 4, 23 | 31 << 7 | e << 12);
        }
        t.faults(10, "lui a0, -1", "lui a0, 1048576", "auipc a0, -1", "auipc a0, 1048576");
    }

    private static void branches() {
        c.sentence("instructions", "the offset -4096 .. 4094, even: bits 12, 10 .. 5 of it in 31, 30 .. 25, 4 .. 1"
                + " and 11 in 11 .. 8 and 7.");
        String[] names = {"beq", "bne", "blt", "bge", "bltu", "bgeu"};
        int[] f = {0, 1, 4, 5, 6, 7};
        for (int i = 0; i < names.length; i++) {
            for (int e : new int[] {-4096, -4094, -2048, -2, 0, 2, 30, 32, 2046, 2048, 4094}) {
                long offset = (e >> 12 & 1L) << 31 | (e >> 5 & 63) << 25 | (e >> 1 & 15) << 8 | (e >> 11 & 1) << 7;
                is(names[i] + " x31, x30, . + " + e, 4, 99 | f[i] << 12 | 31 << 15 | 30 << 20 | offset);
            }
            // Those too far become eight bytes; an odd offset never fits.
            c.same("size", t.size(names[i] + " x31, x30, . - 4098"), 8);
            c.same("size", t.size(names[i] + " x31, x30, . + 4096"), 8);
            t.faults(10, names[i] + " x31, x30, . + 1", names[i] + " x31, x30, . - 4095");
        }
    }

    private static void jumps() {
        c.sentence("instructions", "d, t: jal 111: -1048576 .. 1048574, even: bits 20, 10 .. 1, 11, 19 .. 12 of it in"
                + " 31, 30 .. 21, 20, 19 .. 12.");
        for (int e : new int[] {-1048576, -1048574, -2048, -2, 0, 2, 2046, 2048, 4096, 524288, 1048574}) {
            long offset = (e >> 20 & 1L) << 31 | (e >> 1 & 1023) << 21 | (e >> 11 & 1) << 20 | (e >> 12 & 255) << 12;
            is("jal x31, . + " + e, 4, 111 | 31 << 7 | offset);
            is("jal x0, . + " + e, 4, 111 | offset);
        }
        t.faults(10, "jal ra, . - 1048578", "jal ra, . + 1048576", "jal ra, . + 1", "jal ra, . - 1048575",
                "jal ra, 0x7ffffffe");
    }

    private static void atomics() {
        c.sentence("instructions", "d, b, (a): 47, F 2, by the upper five bits of G: sc.w 3, amoswap.w 1, amoadd.w 0,"
                + " amoxor.w 4, amoand.w 12, amoor.w 8, amomin.w 16, amomax.w 20, amominu.w 24, amomaxu.w 28; d, (a):"
                + " lr.w 2");
        String[] names = {"sc.w", "amoswap.w", "amoadd.w", "amoxor.w", "amoand.w", "amoor.w", "amomin.w", "amomax.w",
            "amominu.w",
            "amomaxu.w"};
        int[] k = {3, 1, 0, 4, 12, 8, 16, 20, 24, 28};
        for (int i = 0; i < names.length; i++) {
            is(names[i] + " x31, x30, (x29)", 4, 47 | 31 << 7 | 2 << 12 | 29 << 15 | 30 << 20 | (long) k[i] << 27);
            t.faults(1, names[i] + " a0, a1, 0(a2)", names[i] + " a0, a1, a2", names[i] + " a0, a2)");
            t.faults(3, names[i] + " a0, (a2)");
        }
        is("lr.w x31, (x29)", 4, 47 | 31 << 7 | 2 << 12 | 29 << 15 | 2 << 27);
        t.faults(1, "lr.w a0, a1, (a2)", "lr.w a0, 0(a1)");
    }

    private static void orders() {
        c.sentence("instructions", "the name may have .aq (bit 26), .rl (25) or .aqrl (both) behind it.");
        String[] names = {"lr.w", "sc.w", "amoswap.w", "amoadd.w", "amoxor.w", "amoand.w", "amoor.w", "amomin.w",
            "amomax.w",
            "amominu.w", "amomaxu.w"};
        int[] k = {2, 3, 1, 0, 4, 12, 8, 16, 20, 24, 28};
        for (int i = 0; i < names.length; i++) {
            String operands = i == 0 ? " x31, (x29)" : " x31, x30, (x29)";
            long bits = 47 | 31 << 7 | 2 << 12 | 29 << 15 | (i == 0 ? 0 : 30 << 20) | (long) k[i] << 27;
            is(names[i] + ".aq" + operands, 4, bits | 1 << 26);
            is(names[i] + ".rl" + operands, 4, bits | 1 << 25);
            is(names[i] + ".aqrl" + operands, 4, bits | 3 << 25);
            t.faults(2, names[i] + ".rlaq" + operands, names[i] + ".aq.rl" + operands, names[i] + "." + operands,
                    names[i] + ".a" + operands, names[i] + ".AQ" + operands, names[i] + "aq" + operands, names[i]
                    + ".aq.aq" + operands);
        }
        t.faults(2, "add.aq a0, a0, a0", "lw.aq a0, 0(a0)", "nop.rl", ".word.aq 1", "fence.aq", ".aq", ".aqrl", ".rl",
                "amoadd.aq a0, a0, (a0)");
    }

    private static void counters() {
        c.sentence("instructions", "d: rdcycle rdtime rdinstret rdcycleh rdtimeh rdinstreth: 115, F 2, 3072, 3073,"
                + " 3074, 3200, 3201, 3202 in bits 20 .. 31.");
        String[] names = {"rdcycle", "rdtime", "rdinstret", "rdcycleh", "rdtimeh", "rdinstreth"};
        long[] number = {3072, 3073, 3074, 3200, 3201, 3202};
        for (int i = 0; i < names.length; i++) {
            is(names[i] + " x31", 4, 115 | 31 << 7 | 2 << 12 | number[i] << 20);
            t.faults(1, names[i], names[i] + " a0, a1");
            t.faults(3, names[i] + " 5");
        }
    }

    private static void alone() {
        c.sentence("instructions", "Alone: fence 267386895, fence.i 4111, ecall 115, ebreak 1048691.");
        is("fence", 4, 267386895);
        is("fence.i", 4, 4111);
        is("ecall", 4, 115);
        is("ebreak", 4, 1048691);
        t.faults(1, "fence 1", "fence.i a0", "ecall 0", "ebreak ,", "nop 1", "ret ra", "c.nop 0", "c.ebreak a0");
    }

    private static void shortStackAddress() {
        c.sentence("short ones", "c.addi4spn d', e: F 0, a multiple of 4, 4 .. 1020: [5:4|9:6|2|3] in 12 .. 5.");
        for (int e = 4; e <= 1020; e += 4) {
            is("c.addi4spn x15, " + e, 2, 7 << 2 | spread(e, "5:4|9:6|2|3", 12));
        }
        is("c.addi4spn x8, 4", 2, spread(4, "5:4|9:6|2|3", 12));
        for (int e : new int[] {-4, 0, 1, 2, 3, 5, 6, 1018, 1021, 1024}) {
            t.faults(10, "c.addi4spn a0, " + e);
        }
    }

    private static void shortWords() {
        c.sentence("short ones", "c.lw d', e(a'): F 2, c.sw b', e(a'): F 6, multiples of 4, 0 .. 124: [5:3] in 12 .."
                + " 10, [2] in 6, [6] in 5.");
        for (int e = 0; e <= 124; e += 4) {
            int offset = spread(e, "5:3", 12) | spread(e, "2", 6) | spread(e, "6", 5);
            is("c.lw x15, " + e + "(x8)", 2, 2 << 13 | 7 << 2 | offset);
            is("c.lw x8, " + e + "(x15)", 2, 2 << 13 | 7 << 7 | offset);
            is("c.sw x15, " + e + "(x8)", 2, 6 << 13 | 7 << 2 | offset);
            is("c.sw x8, " + e + "(x15)", 2, 6 << 13 | 7 << 7 | offset);
        }
        for (int e : new int[] {-4, 1, 2, 3, 126, 128}) {
            t.faults(10, "c.lw a0, " + e + "(a0)", "c.sw a0, " + e + "(a0)");
        }
    }

    private static void shortNumbers() {
        c.sentence("short ones", "N: e -32 .. 31: bit 5 of it in 12, the others in 2 .. 6.");
        for (int e = -32; e <= 31; e++) {
            int n = spread(e, "5", 12) | spread(e, "4:0", 6);
            is("c.addi x31, " + e, 2, 1 | 31 << 7 | n);
            is("c.li x31, " + e, 2, 1 | 2 << 13 | 31 << 7 | n);
            is("c.andi x15, " + e, 2, 1 | 4 << 13 | 2 << 10 | 7 << 7 | n);
        }
        t.faults(10, "c.addi a0, -33", "c.addi a0, 32", "c.li a0, -33", "c.li a0, 32", "c.andi a0, -33",
                "c.andi a0, 32");
        is("c.nop", 2, 1);
        is("c.addi x0, 0", 2, 1);
        is("c.addi x0, 31", 2, 1 | 31 << 2);
        is("c.li x0, 0", 2, 1 | 2 << 13);
    }

    private static void shortJumps() {
        c.sentence("short ones", "c.jal t: F 1, c.j t: F 5: -2048 .. 2046, even: [11|4|9:8|10|6|7|3:1|5] in 12 .. 2.");
        for (int e = -2048; e <= 2046; e += e < -2040 || e > 2030 ? 2 : 62) {
            int offset = spread(e, "11|4|9:8|10|6|7|3:1|5", 12);
            is("c.jal . + " + e, 2, 1 | 1 << 13 | offset);
            is("c.j . + " + e, 2, 1 | 5 << 13 | offset);
        }
        t.faults(10, "c.j . - 2050", "c.j . + 2048", "c.j . + 1", "c.j . - 2047", "c.jal . - 2050", "c.jal . + 2048",
                "c.jal . + 1");
    }

    private static void shortStackStep() {
        c.sentence("short ones", "c.addi16sp e: F 3, d 2, a multiple of 16, -512 .. 496, not 0: [9] in 12,"
                + " [4|6|8:7|5] in 6 .. 2.");
        for (int e = -512; e <= 496; e += 16) {
            if (e == 0) {
                t.faults(10, "c.addi16sp 0");
            } else {
                is("c.addi16sp " + e, 2, 1 | 3 << 13 | 2 << 7 | spread(e, "9", 12) | spread(e, "4|6|8:7|5", 6));
            }
        }
        for (int e : new int[] {-528, 512, 8, -8, 1, 495, 504}) {
            t.faults(10, "c.addi16sp " + e);
        }
    }

    private static void shortUpper() {
        c.sentence("short ones", "c.lui d, N: F 3, d not 2, e not 0.");
        for (int e = -32; e <= 31; e++) {
            if (e == 0) {
                t.faults(10, "c.lui a0, 0");
            } else {
                is("c.lui x31, " + e, 2, 1 | 3 << 13 | 31 << 7 | spread(e, "5", 12) | spread(e, "4:0", 6));
            }
        }
        is("c.lui x0, 1", 2, 1 | 3 << 13 | 1 << 2);
        is("c.lui x1, 1", 2, 1 | 3 << 13 | 1 << 7 | 1 << 2);
        is("c.lui x3, 1", 2, 1 | 3 << 13 | 3 << 7 | 1 << 2);
        t.faults(3, "c.lui x2, 1", "c.lui sp, 1");
        t.faults(10, "c.lui a0, -33", "c.lui a0, 32");
    }

    private static void shortShifts() {
        c.sentence("short ones", "c.srli a', e, c.srai a', e (0 .. 31 in 6 .. 2)");
        for (int e = 0; e <= 31; e++) {
            is("c.srli x15, " + e, 2, 1 | 4 << 13 | 7 << 7 | e << 2);
            is("c.srai x8, " + e, 2, 1 | 4 << 13 | 1 << 10 | e << 2);
        }
        t.faults(10, "c.srli a0, -1", "c.srli a0, 32", "c.srai a0, -1", "c.srai a0, 32");
    }

    private static void shortSums() {
        c.sentence("short ones", "c.sub c.xor c.or c.and a', b': 3 there, and 0 .. 3 in 6, 5.");
        String[] names = {"c.sub", "c.xor", "c.or", "c.and"};
        for (int i = 0; i < names.length; i++) {
            is(names[i] + " x15, x8", 2, 1 | 4 << 13 | 3 << 10 | 7 << 7 | i << 5);
            is(names[i] + " x8, x15", 2, 1 | 4 << 13 | 3 << 10 | i << 5 | 7 << 2);
        }
    }

    private static void shortBranches() {
        c.sentence("short ones", "c.beqz a', t: F 6, c.bnez a', t: F 7: -256 .. 254, even: [8|4:3] in 12 .. 10,"
                + " [7:6|2:1|5] in 6 .. 2.");
        for (int e = -256; e <= 254; e += 2) {
            int offset = spread(e, "8|4:3", 12) | spread(e, "7:6|2:1|5", 6);
            is("c.beqz x15, . + " + e, 2, 1 | 6 << 13 | 7 << 7 | offset);
            is("c.bnez x8, . + " + e, 2, 1 | 7 << 13 | offset);
        }
        t.faults(10, "c.beqz a0, . - 258", "c.beqz a0, . + 256", "c.beqz a0, . + 1", "c.bnez a0, . - 258",
                "c.bnez a0, . + 256",
                "c.bnez a0, . - 255");
    }

    private static void shortLeftShift() {
        c.sentence("short ones", "c.slli d, e: F 0, 0 .. 31 in 6 .. 2.");
        for (int e = 0; e <= 31; e++) {
            is("c.slli x31, " + e, 2, 2 | 31 << 7 | e << 2);
        }
        is("c.slli x0, 0", 2, 2);
        t.faults(10, "c.slli a0, -1", "c.slli a0, 32");
    }

    private static void shortStackWords() {
        c.sentence("short ones", "c.lwsp d, e: F 2, d not 0, a multiple of 4, 0 .. 252: [5] in 12, [4:2|7:6] in 6 .."
                + " 2.");
        for (int e = 0; e <= 252; e += 4) {
            is("c.lwsp x31, " + e, 2, 2 | 2 << 13 | 31 << 7 | spread(e, "5", 12) | spread(e, "4:2|7:6", 6));
        }
        is("c.lwsp x1, 0", 2, 2 | 2 << 13 | 1 << 7);
        t.faults(3, "c.lwsp x0, 0");
        t.faults(10, "c.lwsp a0, -4", "c.lwsp a0, 256", "c.lwsp a0, 1", "c.lwsp a0, 2", "c.lwsp a0, 254");
        c.sentence("short ones", "c.swsp b, e: F 6, as c.lwsp, [5:2|7:6] in 12 .. 7.");
        for (int e = 0; e <= 252; e += 4) {
            is("c.swsp x31, " + e, 2, 2 | 6 << 13 | 31 << 2 | spread(e, "5:2|7:6", 12));
        }
        is("c.swsp x0, 0", 2, 2 | 6 << 13);
        t.faults(10, "c.swsp a0, -4", "c.swsp a0, 256", "c.swsp a0, 1", "c.swsp a0, 2", "c.swsp a0, 254");
    }

    private static void shortMoves() {
        c.sentence("short ones", "(d of the four and b not 0, but d of c.mv and c.add may be 0.)");
        is("c.jr x31", 2, 2 | 4 << 13 | 31 << 7);
        is("c.jr x1", 2, 2 | 4 << 13 | 1 << 7);
        is("c.jalr x31", 2, 2 | 4 << 13 | 1 << 12 | 31 << 7);
        is("c.mv x31, x1", 2, 2 | 4 << 13 | 31 << 7 | 1 << 2);
        is("c.mv x0, x31", 2, 2 | 4 << 13 | 31 << 2);
        is("c.add x1, x31", 2, 2 | 4 << 13 | 1 << 12 | 1 << 7 | 31 << 2);
        is("c.add x0, x1", 2, 2 | 4 << 13 | 1 << 12 | 1 << 2);
        is("c.ebreak", 2, 36866);
        t.faults(3, "c.jr x0", "c.jalr x0", "c.mv x1, x0", "c.mv x0, x0", "c.add x1, x0", "c.add x0, x0");
    }

    private static void registersInPlaces() {
        c.sentence("short ones", "d', a', b' are registers 8 .. 15, as 0 .. 7, in bits 2 .. 4 (d', b') or 7 .. 9 (a')");
        for (int r = 0; r < 32; r++) {
            String[] lines = {"c.addi4spn x" + r + ", 4", "c.lw x" + r + ", 0(x8)", "c.lw x8, 0(x" + r + ")", "c.sw x"
                + r + ", 0(x8)",
                "c.sw x8, 0(x" + r + ")", "c.srli x" + r + ", 1", "c.srai x" + r + ", 1", "c.andi x" + r + ", 1",
                "c.sub x" + r + ", x8",
                "c.sub x8, x" + r, "c.and x" + r + ", x8", "c.or x8, x" + r, "c.xor x" + r + ", x9", "c.beqz x" + r
                + ", .",
                "c.bnez x" + r + ", ."};
            for (String line : lines) {
                if (r >= 8 && r <= 15) {
                    t.fine(line);
                } else {
                    t.faults(3, line);
                }
            }
        }
        is("c.sub x9, x10", 2, 1 | 4 << 13 | 3 << 10 | 1 << 7 | 2 << 2);
        is("c.sub x12, x14", 2, 1 | 4 << 13 | 3 << 10 | 4 << 7 | 6 << 2);
    }

    private static void same(String line, String as) {
        c.same(line + " is " + as, Checks.image(t.fine(line), 0), Checks.image(t.fine(as), 0));
    }

    private static void others() {
        c.sentence("others", "OTHERS are short for these");
        same("nop", "addi zero, zero, 0");
        same("mv x31, x30", "addi x31, x30, 0");
        same("not x31, x30", "xori x31, x30, -1");
        same("neg x31, x30", "sub x31, zero, x30");
        same("seqz x31, x30", "sltiu x31, x30, 1");
        same("snez x31, x30", "sltu x31, zero, x30");
        same("sltz x31, x30", "slt x31, x30, zero");
        same("sgtz x31, x30", "slt x31, zero, x30");
        same("jr x31", "jalr zero, 0(x31)");
        same("ret", "jalr zero, 0(ra)");
        same("jalr x31", "jalr ra, 0(x31)");
        same("bgez x31, . - 8", "bge x31, zero, . - 8");
        same("bltz x31, . - 8", "blt x31, zero, . - 8");
        same("blez x31, . - 8", "bge zero, x31, . - 8");
        same("bgtz x31, . - 8", "blt zero, x31, . - 8");
        same("bgt x31, x30, . - 8", "blt x30, x31, . - 8");
        same("ble x31, x30, . - 8", "bge x30, x31, . - 8");
        same("bgtu x31, x30, . - 8", "bltu x30, x31, . - 8");
        same("bleu x31, x30, . - 8", "bgeu x30, x31, . - 8");
        same("beqz x31, . - 8", "beq x31, zero, . - 8");
        same("bnez x31, . - 8", "bne x31, zero, . - 8");
        c.sentence("others", "jal t (one operand, no register's name) and call t: jal ra, t; j t and tail t: jal"
                + " zero, t.");
        same("jal . + 4096", "jal ra, . + 4096");
        same("call . + 4096", "jal ra, . + 4096");
        same("j . + 4096", "jal zero, . + 4096");
        same("tail . + 4096", "jal zero, . + 4096");
        same("jal (x) + 4096\n.equ x, 0", "jal ra, . + 4096");
        t.faults(1, "jal ra", "jal x0", "jal", "call", "jal 4, 4", "j", "tail 1, 2");
        t.faults(8, "j ra", "call x1");
    }

    private static void addresses() {
        c.sentence("others", "la d, e: auipc d, %hi(offset), addi d, d, %lo(offset), the offset being e minus the"
                + " address of the first one.");
        for (long offset : new long[] {0, 1, 2047, 2048, 4095, 4096, 0x7fffffffL, 0x80000000L, -1, -2048, -2049}) {
            long high = offset + 2048 >>> 12 & 0xfffff;
            long low = offset & 0xfff;
            is("la x31, . + " + offset, 8, 23 | 31 << 7 | high << 12 | (19 | 31 << 7 | 31 << 15 | low << 20) << 32);
        }
        is("la x0, 0", 8, 23 | 19L << 32);
        t.makes("nop\nla a0, 4", "13000000" + "17050000" + "13050500");
        t.makes("nop\nla a0, 0", "13000000" + "17050000" + "1305c5ff");
    }

    private static void loadedNumbers() {
        c.sentence("others", "li d, e (fixed): c.li, if e is -32 .. 31 and d not 0; else addi d, zero, e, if it is"
                + " -2048 .. 2047; else lui d, %hi(e), and addi d, d, %lo(e), unless %lo(e) is 0.");
        same("li x31, -32", "c.li x31, -32");
        same("li x1, 31", "c.li x1, 31");
        same("li x1, 0", "c.li x1, 0");
        same("li x31, -33", "addi x31, zero, -33");
        same("li x31, 32", "addi x31, zero, 32");
        same("li x0, 0", "addi x0, zero, 0");
        same("li x0, 31", "addi x0, zero, 31");
        same("li x31, -2048", "addi x31, zero, -2048");
        same("li x31, 2047", "addi x31, zero, 2047");
        same("li x31, 2048", "lui x31, 1\naddi x31, x31, -2048");
        same("li x31, -2049", "lui x31, 0xfffff\naddi x31, x31, 2047");
        same("li x31, 4095", "lui x31, 1\naddi x31, x31, -1");
        same("li x31, 4096", "lui x31, 1");
        same("li x31, 4097", "lui x31, 1\naddi x31, x31, 1");
        same("li x31, -4096", "lui x31, 0xfffff");
        same("li x31, 0x80000000", "lui x31, 0x80000");
        same("li x31, 0x7fffffff", "lui x31, 0x80000\naddi x31, x31, -1");
        same("li x31, 0x7ffff800", "lui x31, 0x80000\naddi x31, x31, -2048");
        same("li x31, 0xfffff800", "addi x31, zero, -2048");
        same("li x31, 4294967295", "c.li x31, -1");
        same("li x0, 4096", "lui x0, 1");
        t.faults(5, "li a0, .", "a: li a0, a", "1: li a0, 1b");
    }
}
