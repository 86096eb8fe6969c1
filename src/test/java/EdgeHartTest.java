/** The boundary cases that the document names of the hart: numbers, places, pages, traps, and each instruction. */
public final class EdgeHartTest {
    private static final Checks c = new Checks();
    private static final Steps t = new Steps(c);
    private static final int LEAST = Integer.MIN_VALUE;
    private static final int MOST = Integer.MAX_VALUE;

    public static void main(String[] args) {
        wrapAround();
        zero();
        lastBytes();
        unsignedAddresses();
        lengths();
        nothingChanges();
        fetch();
        fetchPartly();
        illegalLong();
        illegalShort();
        inOrder();
        misaligned();
        loads();
        stores();
        conditionals();
        retired();
        evenPlaces();
        nextPlaces();
        uppers();
        jumps();
        places();
        branches();
        loadedNumbers();
        storedNumbers();
        comparisons();
        numberShifts();
        registerShifts();
        products();
        quotients();
        atomics();
        reserved();
        reservedOnce();
        conditionalFails();
        reservedWritten();
        reservedByKernel();
        reservedByOthers();
        reservedAndGrow();
        fences();
        counters();
        otherCounters();
        shortStack();
        shortSums();
        shortShifts();
        shortMoves();
        shortStackWords();
        c.finish();
    }

    private static void wrapAround() {
        c.sentence("the hart", "NUMBERS are 32 bits, all arithmetic goes round");
        t.with("add", MOST, 1, LEAST);
        t.with("add", -1, 1, 0);
        t.with("sub", LEAST, 1, MOST);
        t.with("sub", 0, LEAST, LEAST);
        t.with("mul", 65536, 65536, 0);
        t.with("mul", MOST, 2, -2);
        t.gives("li a0, 0x7fffffff\naddi a2, a0, 2047", LEAST + 2046);
        t.gives("li a0, 0x80000000\naddi a2, a0, -2048", MOST - 2047);
        t.gives("li a0, 0x7fffffff\nli a2, 1\nc.add a2, a0", LEAST);
        t.gives("li a2, 0x7fffffff\nc.addi a2, 31", LEAST + 30);
        t.gives("nop\nauipc a2, 0xfffff", 4 - 4096);
    }

    private static void zero() {
        c.sentence("the hart", "REGISTERS x0 .. x31; x0 is always 0.");
        String[] writes = {"li zero, 5", "lui zero, 5", "auipc zero, 5", "add zero, sp, sp", "mul zero, sp, sp",
            "addi zero, sp, 5",
            "lw zero, 0(a0)", "lbu zero, 0(a0)", "lr.w zero, (a0)", "amoadd.w zero, sp, (a0)", "sc.w zero, sp, (a0)",
            "rdcycle zero",
            "c.li zero, 5", "c.mv zero, sp", "c.add zero, sp", "c.addi zero, 5", "c.lui zero, 5", "jal zero, . + 4",
            "la a1, 1f\njalr zero, 0(a1)\n1: nop", "slli zero, sp, 1", "c.slli zero, 1", "srai zero, sp, 1"};
        for (String line : writes) {
            t.gives("la a0, d\n" + line + "\nmv a2, zero", 0);
        }
        t.gives("addi x31, zero, 9\nmv a2, x31", 9);
    }

    private static void lastBytes() {
        c.sentence("the hart", "BYTES 0 .. 65535 lie in PAGES of 1024 (0 .. 63), each absent, or there with RIGHTS");
        t.gives("li a0, 65535\nli a1, 77\nsb a1, 0(a0)\nlbu a2, 0(a0)", 77);
        t.gives("li a0, 65532\nli a1, 77\nsw a1, 0(a0)\nlw a2, 0(a0)", 77);
        t.gives("li a0, 61440\nlw a2, 0(a0)\nli a2, 5", 5);
        t.ends(11, "li a0, 65536\nlbu a1, 0(a0)", "li a0, 65536\nlw a1, 0(a0)", "li a0, 61439\nlbu a1, 0(a0)",
                "li a0, 61436\nlw a1, 0(a0)", "li a0, 65536\nsb a1, 0(a0)", "li a0, 61439\nsb a1, 0(a0)",
                "li a0, 2048\nlbu a1, 0(a0)");
        t.ends(0, "li a0, 2047\nlbu a1, 0(a0)", "li a0, 2047\nsb a1, 0(a0)", "li a0, 1023\nlbu a1, 0(a0)",
                "lbu a1, 0(zero)",
                "li a0, 1024\nsb a1, 0(a0)");
    }

    private static void unsignedAddresses() {
        c.sentence("the hart", "An address is a number taken unsigned.");
        t.ends(11, "lbu a0, -1(zero)", "sb a0, -1(zero)", "li a0, 0x80000000\nlw a1, 0(a0)",
                "li a0, 0xffff0000\nlbu a1, 0(a0)",
                "li a0, 0x10000400\nlw a1, 0(a0)");
        // The sum goes round, so that the address is there.
        t.ends(0, "li a0, -1\nlbu a1, 1(a0)", "li a0, -4\nlw a1, 4(a0)", "li a0, -1000\nlbu a1, 2040(a0)");
        t.ends(11, "li a0, 4\nlw a1, -8(a0)", "li a0, 65535\nlbu a1, 1(a0)");
    }

    private static void lengths() {
        c.sentence("the hart", "if its lowest two bits are 11, the instruction is LONG: the word there; otherwise"
                + " SHORT: the half.");
        t.gives("c.nop\naddi a2, zero, 7", 7);
        t.gives("c.li a2, 3\nc.addi a2, 1\naddi a2, a2, 1\nc.addi a2, 1", 6);
        // A long one that begins where a page ends, both of whose pages may be carried out.
        t.gives("j 1f\n.align 10\n.space 1022\n1: addi a2, zero, 9", 9);
    }

    private static void nothingChanges() {
        c.sentence("the hart", "or TRAPS: then nothing changes but the CAUSE and the VALUE.");
        String begin = "li a7, 17\nli a0, 7\nla a1, h\necall\nli a0, 11\nla a1, h\necall\nla a0, d\nli a2, 5\n";
        String end = "\nh: li a7, 21\necall\n.data\nd: .word 3";
        for (String line : new String[] {"lw a2, 1(a0)", "lh a2, 3(a0)", "lw a2, -4(zero)", "lr.w a2, (a2)",
            "amoadd.w a2, a2, (zero)",
            "sc.w a2, a2, (zero)", "sw a2, 1(a0)", "c.lw a2, 4(a2)"}) {
            TimeMachine x = c.booted(begin + line + end);
            x.run(12);
            c.same("a2 before " + line, x.register(0, 12), 5);
            long retired = x.count(14);
            int place = x.register(0, 32);
            x.run(1);
            c.same("within a handler", x.process(0, 4), 1);
            c.same("a2 behind " + line, x.register(0, 12), 5);
            c.same("not retired", x.count(14), retired);
            c.same("the word", Checks.word(x, 0, x.program(0, 1)), 3);
            c.same("it wrote nothing", x.wrote(0, x.program(0, 1)), -1);
            c.same("the place was another", place == x.register(0, 32) ? 1 : 0, 0);
        }
    }

    private static void fetch() {
        c.sentence("the hart", "1 FETCH: the place is odd, or a byte of the instruction isn't in 0 .. 65535 or on a"
                + " page that may be carried out");
        t.ends(11, "li a0, 1024\njr a0", "li a0, 61440\njr a0", "li a0, 4096\njr a0", "li a0, 65534\njr a0",
                "li a0, 65536\njr a0",
                "li a0, -2\njr a0", "li a0, 0x80000000\njr a0");
        // A place is odd only as a handler's.
        TimeMachine x = c.booted("li a7, 17\nli a0, 5\nli a1, 3\necall\nebreak\n");
        x.run(5);
        c.same("at an odd place", x.register(0, 32), 3);
        c.same("within a handler", x.process(0, 4), 1);
        x.run(1);
        c.same("it ends", x.process(0, 0), 0);
        c.same("an even place is no fault", t.signal("li a7, 17\nli a0, 5\nla a1, 2f\necall\nebreak\n2: li a7, 18\n"
                + "li a7, 0"), 0);
    }

    private static void fetchPartly() {
        c.sentence("the hart", "a byte of the instruction isn't in 0 .. 65535 or on a page that may be carried out");
        // The last half of the text: a short one is whole there, a long one is not, whatever page is behind.
        String last = "j 2f\n.align 10\n.space 1022\n2: .half ";
        for (String data : new String[] {"", "d: .word 0x13"}) {
            c.same("a short one there", t.lastSignal(last + "0x9002", data), 5);
            c.same("illegal bits of a short one", t.lastSignal(last + "0", data), 4);
            c.same("half of a long one", t.lastSignal(last + "0x13", data), 11);
            c.same("half of a long one that there is not", t.lastSignal(last + "0xffff", data), 11);
        }
    }

    private static void illegalLong() {
        c.sentence("the hart", "2 ILLEGAL: the bits are no instruction below");
        // All opcodes of long ones that there are not.
        for (int opcode = 3; opcode < 128; opcode += 4) {
            boolean known = "37 17 6f 67 63 03 23 13 33 2f 0f 73".contains(String.format("%02x", opcode));
            if (!known) {
                t.ends(4, ".word " + opcode, ".word 0xffffff80 | " + opcode);
            }
        }
        t.ends(4, ".word 0x03 | 3 << 12", ".word 0x03 | 6 << 12", ".word 0x03 | 7 << 12", ".word 0x63 | 2 << 12",
                ".word 0x63 | 3 << 12");
        for (int f = 1; f < 8; f++) {
            t.ends(4, ".word 0x67 | " + f + " << 12");
            if (f > 2) {
                t.ends(4, ".word 0x23 | 11 << 15 | " + f + " << 12");
            }
            if (f > 1) {
                t.ends(4, ".word 0x0f | " + f + " << 12");
            }
        }
        for (int f = 0; f < 8; f++) {
            if (f != 2) {
                t.ends(4, ".word 0x2f | " + f + " << 12");
            }
            for (int g : new int[] {2, 31, 33, 64, 127}) {
                t.ends(4, ".word 0x33 | " + f + " << 12 | " + g + " << 25");
            }
            if (f != 0 && f != 5) {
                t.ends(4, ".word 0x33 | " + f + " << 12 | 32 << 25");
            }
        }
        for (int g : new int[] {1, 2, 16, 31, 32, 33, 64, 127}) {
            t.ends(4, ".word 0x13 | 1 << 12 | " + g + " << 25");
            t.ends(g == 32 ? 0 : 4, ".word 0x13 | 5 << 12 | " + g + " << 25");
        }
        for (int k = 0; k < 32; k++) {
            boolean known = " 0 1 2 3 4 8 12 16 20 24 28 ".contains(" " + k + " ");
            t.ends(known ? 0 : 4, "la a0, d\nlr.w a1, (a0)\n.word 0x2f | 2 << 12 | 10 << 15 | " + k + " << 27");
        }
        t.ends(4, "la a0, d\n.word 0x2f | 2 << 12 | 10 << 15 | 1 << 20 | 2 << 27",
                "la a0, d\n.word 0x2f | 2 << 12 | 10 << 15 | 16 << 20 | 2 << 27");
    }

    private static void illegalShort() {
        c.sentence("the hart", "All others, and a half of 0, are illegal.");
        int[] none = {0x0000, 0x0004, 0x001c, 0x2000, 0x3ffc, 0x6000, 0x8000, 0x9ffc, 0xa000, 0xbffc, 0xe000, 0xfffc,
            // Q 1: F 3 with N 0, D 2 and not; F 4: bit 12 of a shift, of sums.
            0x6001, 0x6081, 0x6101, 0x6f81, 0x9001, 0x9401, 0x9c01, 0x9c21, 0x9c41, 0x9c61, 0x9fe1,
            // Q 2: F 0 with bit 12, F 2 with D 0, F 4 with D 0 and B 0, and F 1, 3, 5, 7.
            0x1002, 0x1f82, 0x4002, 0x407e, 0x8002, 0x2002, 0x3ffe, 0x6002, 0x7ffe, 0xa002, 0xbffe, 0xe002, 0xfffe};
        for (int half : none) {
            t.ends(4, ".half " + half);
        }
        c.sentence("short ones", "(D 0 and N 0 are no fault where nothing is said.)");
        int[] fine = {0x0001, 0x0005, 0x0081, 0x4001, 0x4081, 0x6005, 0x0002, 0x0082, 0x007e, 0x8006, 0x9006, 0x8801,
            0x8001, 0x8401,
            0xc002};
        for (int half : fine) {
            t.ends(0, "la s0, d\nli sp, 65528\nmv x1, zero\n.half " + half);
        }
    }

    private static void inOrder() {
        c.sentence("the hart", "CAUSES, in the order in which they are asked");
        t.ends(11, "li a0, 1024\njr a0\n.data\n.word 0");
        t.ends(4, ".word 0x03 | 3 << 12 | 1 << 20", ".word 0x23 | 3 << 12 | 1 << 7", ".word 0x2f | 2 << 12 | 5 << 27");
        t.ends(7, "lw a0, -1(zero)", "lh a0, -1(zero)", "lhu a0, -1(zero)", "sw a0, -2(zero)", "sh a0, 1(zero)",
                "sw a0, 1(zero)",
                "li a0, 1\nlr.w a1, (a0)", "li a0, 1\nsc.w a1, a1, (a0)", "li a0, 2\namoadd.w a1, a1, (a0)",
                "li a0, -2\nlr.w a1, (a0)");
    }

    private static void misaligned() {
        c.sentence("the hart", "5 MISALIGNED: the address is no multiple of 2 for halves, of 4 for words");
        for (int at = 0; at < 4; at++) {
            t.ends(0, "la a0, d\nlb a1, " + at + "(a0)", "la a0, d\nlbu a1, " + at + "(a0)", "la a0, d\nsb a1, " + at
                    + "(a0)");
            int half = at % 2 == 0 ? 0 : 7;
            t.ends(half, "la a0, d\nlh a1, " + at + "(a0)", "la a0, d\nlhu a1, " + at + "(a0)", "la a0, d\nsh a1, " + at
                    + "(a0)");
            int word = at == 0 ? 0 : 7;
            t.ends(word, "la a0, d\nlw a1, " + at + "(a0)", "la a0, d\nsw a1, " + at + "(a0)", "la a0, d + " + at
                    + "\nlr.w a1, (a0)",
                    "la a0, d + " + at + "\nsc.w a1, a1, (a0)", "la a0, d + " + at + "\namoswap.w a1, a1, (a0)",
                    "la a0, d + " + at + "\nc.lw a1, 0(a0)", "la a0, d + " + at + "\nc.sw a1, 0(a0)", "la sp, d + " + at
                    + "\nc.lwsp a1, 0",
                    "la sp, d + " + at + "\nc.swsp a1, 0");
        }
    }

    private static void loads() {
        c.sentence("the hart", "6 LOAD: a byte isn't there, or its page may not be read");
        for (String op : new String[] {"lb", "lbu", "lh", "lhu", "lw"}) {
            t.ends(11, "li a0, 2048\n" + op + " a1, 0(a0)", "li a0, 61436\n" + op + " a1, 0(a0)", "li a0, 65536\n" + op
                    + " a1, 0(a0)");
            t.ends(0, op + " a1, 0(zero)", "li a0, 65532\n" + op + " a1, 0(a0)");
        }
        t.ends(11, "li a0, 2048\nlr.w a1, (a0)", "li a0, 65536\nlr.w a1, (a0)", "li a0, 65536\nc.lw a1, 0(a0)",
                "li sp, 65536\nc.lwsp a1, 0");
        t.ends(0, "lr.w a1, (zero)");
    }

    private static void stores() {
        c.sentence("the hart", "7 STORE: likewise, written");
        for (String op : new String[] {"sb", "sh", "sw"}) {
            t.ends(11, "li a0, 2048\n" + op + " a1, 0(a0)", "li a0, 61436\n" + op + " a1, 0(a0)", "li a0, 65536\n" + op
                    + " a1, 0(a0)",
                    op + " a1, 0(zero)", "li a0, 1020\n" + op + " a1, 0(a0)");
            t.ends(0, "li a0, 65532\n" + op + " a1, 0(a0)", "li a0, 1028\n" + op + " a1, 0(a0)");
        }
        t.ends(11, "amoswap.w a1, a1, (zero)", "li a0, 65536\namoadd.w a1, a1, (a0)", "li a0, 65536\nc.sw a1, 0(a0)",
                "li sp, 65536\nc.swsp a1, 0");
    }

    private static void conditionals() {
        c.sentence("the hart", "an atomic one but a load reserved asks 5, 7, then 6; a load reserved 5, 6");
        t.ends(11, "sc.w a1, a1, (zero)", "lr.w a1, (zero)\nsc.w a1, a1, (zero)", "li a0, 4096\nsc.w a1, a1, (a0)");
        t.ends(7, "li a0, 1\nsc.w a1, a1, (a0)");
        t.ends(0, "lr.w a1, (zero)", "la a0, d\nsc.w a1, a1, (a0)");
    }

    private static void retired() {
        c.sentence("the hart", "What is carried out is RETIRED (of all processes together, counted from 0 on, 64"
                + " bits).");
        TimeMachine x = c.booted("nop\nli a7, 1\necall\nnop\nli a7, 15\necall\nnop\nebreak");
        c.same("at first", x.count(14), 0);
        x.run(2);
        c.same("two", x.count(14), 2);
        x.run(1);
        c.same("a call is not", x.count(14), 2);
        x.run(3);
        c.same("the parent's", x.count(14), 4);
        x.run(3);
        c.same("the child's, too", x.count(14), 6);
        x.run(100);
        c.same("a trap is not", x.count(14), 8);
    }

    private static void evenPlaces() {
        c.sentence("the hart", "or where it jumped to (the lowest bit of that being 0).");
        t.gives("la a0, 1f\njalr a2, 1(a0)\nnop\n1: li a2, 6", 6);
        t.gives("la a0, 1f + 1\njalr a2, 0(a0)\nnop\n1: li a2, 6", 6);
        t.gives("la a0, 1f + 1\nc.jr a0\nnop\n1: li a2, 6", 6);
        t.gives("la a0, 1f + 1\nc.jalr a0\nnop\n1: li a2, 6", 6);
        t.gives("la a0, 1f + 2\njalr a2, -1(a0)\nnop\n1: li a2, 6", 6);
    }

    private static void nextPlaces() {
        c.sentence("the hart", "Behind it the place is 2 or 4 more,");
        TimeMachine x = c.booted("c.nop\nnop\nc.li a0, 1\nbeq zero, a0, 0\nc.beqz a0, 0\nlw a1, 0(zero)\n"
                + "sw a1, -4(sp)\nfence");
        int[] due = {2, 6, 8, 12, 14, 18, 22, 26};
        for (int place : due) {
            x.run(1);
            c.same("the place", x.register(0, 32), place);
        }
    }

    private static void uppers() {
        c.sentence("long ones", "0x37 d = the bits 12 .. 31 with twelve 0 below. 0x17 d = place + such a number.");
        t.gives("lui a2, 0", 0);
        t.gives("lui a2, 0xfffff", -4096);
        t.gives("lui a2, 0x80000", LEAST);
        t.gives("nop\nauipc a2, 0", 4);
        t.gives("nop\nauipc a2, 0x80000", LEAST + 4);
        t.gives("nop\nauipc a2, 0xfffff", 4 - 4096);
    }

    private static void jumps() {
        c.sentence("long ones", "0x6f d = place + 4, jump to place + J");
        t.gives("nop\njal a2, . + 4", 8);
        t.gives("j 2f\n1: j 3f\n.space 3000\n2: jal a2, 1b\n3: nop", 3012);
        t.gives("j 2f\n.space 3000\n1: j 3f\n2: .space 0\njal a2, 1b\n3: nop", 3010);
        t.ends(11, "jal a0, . - 1048576", "jal a0, . + 1048574", "jal a0, -2");
        c.sentence("long ones", "0x67, F 0: d = place + 4, jump to a + I.");
        t.gives("la a2, 1f\njalr a2, 0(a2)\nnop\n1: nop", 12);
        t.gives("la a0, 1f - 2047\njalr a2, 2047(a0)\nnop\n1: nop", 12);
        t.gives("la a0, 1f + 2048\njalr a2, -2048(a0)\nnop\n1: nop", 12);
        t.gives("li a0, -4\nnop\nj 2f\n1: j 3f\n2: jalr a2, 1b + 4(a0)\n3: nop", 14);
    }

    /** Where a tick of a line jumps to, by its offset. */
    private static void jumps(String before, String line, int... offsets) {
        for (int offset : offsets) {
            TimeMachine x = c.booted(before + line + " . + " + offset);
            int place = x.program(0, 0) - (line.startsWith("c.") ? 2 : 4);
            x.run(before.isEmpty() ? 1 : 2);
            c.same(line + " . + " + offset, x.register(0, 32), place + offset);
        }
    }

    private static void places() {
        c.sentence("long ones", "J: bits 31, 12 .. 19, 20, 21 .. 30 and a 0, from the highest on.");
        jumps("", "jal ra,", -1048576, -1048574, -524288, -4096, -2050, -2048, -2, 2, 4, 6, 8, 16, 32, 64, 128, 256,
                512, 1024, 2046, 2048,
                4096, 8192, 65536, 524288, 1048574);
        c.sentence("long ones", "T: bits 31, 7, 25 .. 30, 8 .. 11 and a 0.");
        jumps("", "beq zero, zero,", -4096, -4094, -2050, -2048, -34, -32, -30, -2, 2, 4, 8, 16, 30, 32, 64, 128, 256,
                512, 1024, 2046, 2048,
                4094);
        c.sentence("short ones", "bits 2 .. 12 J[11|4|9:8|10|6|7|3:1|5], signed.");
        int[] all = {-2048, -2046, -1024, -512, -256, -128, -64, -32, -16, -8, -4, -2, 2, 4, 8, 16, 32, 64, 128, 256,
            512, 1024, 1366, 682,
            2046};
        jumps("", "c.j", all);
        jumps("", "c.jal", all);
        c.sentence("short ones", "bits 10 .. 12 T[8|4:3], bits 2 .. 6 T[7:6|2:1|5], signed.");
        int[] few = {-256, -254, -128, -64, -32, -16, -8, -4, -2, 2, 4, 8, 16, 32, 64, 128, 170, 84, 254};
        jumps("", "c.beqz a0,", few);
        jumps("c.li a0, 1\n", "c.bnez a0,", few);
        c.sentence("long ones", "IMMEDIATES, signed: I: bits 20 .. 31.");
        for (int e : new int[] {-2048, -1024, -2, 0, 2, 4, 64, 1024, 2046}) {
            TimeMachine x = c.booted("jalr ra, " + e + "(sp)");
            x.run(1);
            c.same("jalr ra, " + e + "(sp)", x.register(0, 32), 65536 + e);
        }
    }

    private static void branch(String op, int a, int b, boolean taken) {
        t.gives("li a0, " + a + "\nli a1, " + b + "\nli a2, 1\n" + op + " a0, a1, 1f\nli a2, 2\n1: nop", taken ? 1 : 2);
    }

    private static void branches() {
        c.sentence("long ones", "if F 0 a = b, 1 a is another, 4 a < b, 5 not, 6 and 7 likewise unsigned");
        int[][] pairs = {{0, 0}, {0, 1}, {1, 0}, {-1, 0}, {0, -1}, {LEAST, MOST}, {MOST, LEAST}, {-1, -1},
            {LEAST, LEAST}, {-2, -1}};
        for (int[] it : pairs) {
            boolean less = it[0] < it[1];
            boolean below = (it[0] & 0xffffffffL) < (it[1] & 0xffffffffL);
            branch("beq", it[0], it[1], it[0] == it[1]);
            branch("bne", it[0], it[1], it[0] != it[1]);
            branch("blt", it[0], it[1], less);
            branch("bge", it[0], it[1], !less);
            branch("bltu", it[0], it[1], below);
            branch("bgeu", it[0], it[1], !below);
        }
        t.gives("li a2, 0\nj 2f\n1: addi a2, a2, 5\nj 3f\n.space 4000\n2: beq zero, zero, 1b\n3: nop", 5);
        t.gives("li a2, 0\nbeq zero, zero, 2f\n.space 4000\n2: addi a2, a2, 7", 7);
        t.ends(11, "beq zero, zero, . - 4096", "beq zero, zero, . + 4094");
    }

    private static void loadedNumbers() {
        c.sentence("long ones", "0x03, at a + I: F 0 a byte, 1 a half, 2 a word, the first two signed, 4 and 5"
                + " unsigned: d.");
        String begin = "la a0, 1f\nj 2f\n.align 2\n1: .byte 0x80, 0xff, 0x7f, 0\n.half 0x8000, 0x7fff, 0xffff\n2: ";
        int[] bytes = {-128, -1, 127, 0};
        for (int i = 0; i < bytes.length; i++) {
            t.gives(begin + "lb a2, " + i + "(a0)", bytes[i]);
            t.gives(begin + "lbu a2, " + i + "(a0)", bytes[i] & 255);
        }
        int[] halves = {-32768, 32767, -1};
        for (int i = 0; i < halves.length; i++) {
            t.gives(begin + "lh a2, " + (4 + 2 * i) + "(a0)", halves[i]);
            t.gives(begin + "lhu a2, " + (4 + 2 * i) + "(a0)", halves[i] & 65535);
        }
        t.gives(begin + "lw a2, 4(a0)", 0x7fff8000);
        t.gives(begin + "addi a0, a0, 2047\nlbu a2, -2047(a0)", 128);
        t.gives(begin + "addi a0, a0, -2047\nlbu a2, 2047(a0)", 128);
        t.gives(begin + "addi a0, a0, 1024\naddi a0, a0, 1024\nlbu a2, -2048(a0)", 128);
    }

    private static void storedNumbers() {
        c.sentence("long ones", "0x23, at a + S: F 0, 1, 2 a byte, half, word becomes the lowest bits of b.");
        String begin = "la a0, d\nli a1, 0x12345678\nsw zero, 0(a0)\nsw zero, 4(a0)\n";
        int[] byteDue = {0x78, 0x7800, 0x780000, 0x78000000};
        for (int i = 0; i < 4; i++) {
            t.gives(begin + "sb a1, " + i + "(a0)\nlw a2, 0(a0)", byteDue[i]);
            t.gives(begin + "sb a1, " + i + "(a0)\nlw a2, 4(a0)", 0);
        }
        t.gives(begin + "sh a1, 0(a0)\nlw a2, 0(a0)", 0x5678);
        t.gives(begin + "sh a1, 2(a0)\nlw a2, 0(a0)", 0x56780000);
        t.gives(begin + "sw a1, 0(a0)\nlw a2, 0(a0)", 0x12345678);
        String ones = "la a0, d\nli a1, -1\nsw zero, 0(a0)\n";
        t.gives(ones + "sb a1, 0(a0)\nlw a2, 0(a0)", 0xff);
        t.gives(ones + "sh a1, 0(a0)\nlw a2, 0(a0)", 0xffff);
        t.gives(ones + "sh a1, 2(a0)\nlw a2, 0(a0)", 0xffff0000);
        t.gives(ones + "sw a1, 0(a0)\nlw a2, 0(a0)", -1);
        t.gives(ones + "sw a1, 0(a0)\nsh zero, 0(a0)\nlw a2, 0(a0)", 0xffff0000);
        t.gives(ones + "sw a1, 0(a0)\nsb zero, 3(a0)\nlw a2, 0(a0)", 0x00ffffff);
        t.gives(begin + "addi a0, a0, 2047\nsb a1, -2047(a0)\nla a0, d\nlw a2, 0(a0)", 0x78);
        t.gives(begin + "addi a0, a0, -2047\nsb a1, 2047(a0)\nla a0, d\nlw a2, 0(a0)", 0x78);
        t.gives(begin + "addi a0, a0, 1024\naddi a0, a0, 1024\nsb a1, -2048(a0)\nla a0, d\nlw a2, 0(a0)", 0x78);
    }

    private static void comparisons() {
        c.sentence("long ones", "2 whether a < I (1, 0), 3 likewise unsigned (I as 32 bits)");
        int[][] pairs = {{-2048, -2048}, {-2049, -2048}, {2047, 2047}, {2046, 2047}, {2048, 2047}, {0, -1}, {-1, 0},
            {LEAST, -2048},
            {MOST, 2047}, {-1, -1}, {-2, -1}, {0, 1}};
        for (int[] it : pairs) {
            t.gives("li a0, " + it[0] + "\nslti a2, a0, " + it[1], it[0] < it[1] ? 1 : 0);
            t.gives("li a0, " + it[0] + "\nsltiu a2, a0, " + it[1],
                    (it[0] & 0xffffffffL) < (it[1] & 0xffffffffL) ? 1 : 0);
            t.with("slt", it[0], it[1], it[0] < it[1] ? 1 : 0);
            t.with("sltu", it[0], it[1], (it[0] & 0xffffffffL) < (it[1] & 0xffffffffL) ? 1 : 0);
        }
        t.gives("li a0, 0x0f0f0f0f\nxori a2, a0, -1", 0xf0f0f0f0);
        t.gives("li a0, 0x0f0f0f0f\nori a2, a0, -2048", 0x0f0f0f0f | -2048);
        t.gives("li a0, 0x0f0f0f0f\nandi a2, a0, -2048", 0x0f0f0f0f & -2048);
        t.with("xor", 0x0f0f0f0f, -1, 0xf0f0f0f0);
        t.with("or", LEAST, 1, LEAST + 1);
        t.with("and", LEAST, -1, LEAST);
    }

    private static void numberShifts() {
        c.sentence("long ones", "1 with G 0: a << B (the number), 5 with G 0: a >>> B, with G 32: a >> B.");
        for (int n : new int[] {0, 1, 16, 31}) {
            t.gives("li a0, 0x80000001\nslli a2, a0, " + n, 0x80000001 << n);
            t.gives("li a0, 0x80000001\nsrli a2, a0, " + n, 0x80000001 >>> n);
            t.gives("li a0, 0x80000001\nsrai a2, a0, " + n, 0x80000001 >> n);
        }
    }

    private static void registerShifts() {
        c.sentence("long ones", "1 a << (b & 31), 2 a < b, 3 unsigned, 4 a ^ b, 5 a >>> (b & 31)");
        for (int n : new int[] {0, 1, 31, 32, 33, -1, LEAST, 63}) {
            t.with("sll", 0x80000001, n, 0x80000001 << (n & 31));
            t.with("srl", 0x80000001, n, 0x80000001 >>> (n & 31));
            t.with("sra", 0x80000001, n, 0x80000001 >> (n & 31));
        }
    }

    private static void products() {
        c.sentence("long ones", "F 0 a * b, its lowest 32 bits; the highest 32 of the 64 bits of 1 both signed, 2 a"
                + " signed, b unsigned, 3 both unsigned");
        int[] some = {0, 1, -1, LEAST, MOST, 65536, 2};
        for (int a : some) {
            for (int b : some) {
                long ua = a & 0xffffffffL;
                long ub = b & 0xffffffffL;
                t.with("mul", a, b, a * b);
                t.with("mulh", a, b, (int) ((long) a * (long) b >> 32));
                t.with("mulhsu", a, b, (int) ((long) a * ub >> 32));
                t.with("mulhu", a, b, (int) (Math.multiplyHigh(ua, ub) << 32 | ua * ub >>> 32));
            }
        }
    }

    private static void quotients() {
        c.sentence("long ones", "4 a / b (towards 0), 5 unsigned, 6 a remainder b (with the sign of a), 7 unsigned;"
                + " divided by 0: -1, and a as remainder.");
        for (int a : new int[] {0, 7, -7, LEAST, MOST, -1}) {
            t.with("div", a, 0, -1);
            t.with("divu", a, 0, -1);
            t.with("rem", a, 0, a);
            t.with("remu", a, 0, a);
        }
        t.with("div", 7, 2, 3);
        t.with("div", -7, 2, -3);
        t.with("div", 7, -2, -3);
        t.with("div", -7, -2, 3);
        t.with("rem", 7, 2, 1);
        t.with("rem", -7, 2, -1);
        t.with("rem", 7, -2, 1);
        t.with("rem", -7, -2, -1);
        t.with("div", LEAST, -1, LEAST);
        t.with("rem", LEAST, -1, 0);
        t.with("divu", LEAST, -1, 0);
        t.with("remu", LEAST, -1, LEAST);
        t.with("divu", -1, 1, -1);
        t.with("divu", -1, 10, (int) (4294967295L / 10));
        t.with("remu", -1, 10, 5);
        t.with("divu", 7, -2, 0);
        t.with("remu", 7, -2, 7);
    }

    private static void atomic(String op, int word, int b, int due) {
        String begin = "la a0, d\nli a1, " + word + "\nsw a1, 0(a0)\nli a1, " + b + "\n";
        t.gives(begin + op + " a2, a1, (a0)", word);
        t.gives(begin + op + " a3, a1, (a0)\nlw a2, 0(a0)", due);
        t.gives(begin + op + " a1, a1, (a0)\nlw a2, 0(a0)", due);
        t.gives(begin + op + " a0, a1, (a0)\nmv a2, a0", word);
    }

    private static void atomics() {
        c.sentence("long ones", "Others: d is the word (signed), which becomes: K 1 b, 0 word + b, 4 word ^ b, 12"
                + " word & b, 8 word | b, 16 the less, 20 the greater, 24 and 28 likewise unsigned.");
        int[][] pairs = {{MOST, 1}, {LEAST, MOST}, {-1, 0}, {0, -1}, {5, 5}, {LEAST, LEAST}, {1, 2}};
        for (int[] it : pairs) {
            int w = it[0];
            int b = it[1];
            atomic("amoswap.w", w, b, b);
            atomic("amoadd.w", w, b, w + b);
            atomic("amoxor.w", w, b, w ^ b);
            atomic("amoand.w", w, b, w & b);
            atomic("amoor.w", w, b, w | b);
            atomic("amomin.w", w, b, Math.min(w, b));
            atomic("amomax.w", w, b, Math.max(w, b));
            atomic("amominu.w", w, b, Integer.compareUnsigned(w, b) < 0 ? w : b);
            atomic("amomaxu.w", w, b, Integer.compareUnsigned(w, b) > 0 ? w : b);
        }
        c.sentence("long ones", "0x2f, F 2, with K the upper five bits of G (the lower two may be any), at a");
        for (String order : new String[] {"", ".aq", ".rl", ".aqrl"}) {
            t.gives("la a0, d\nlr.w" + order + " a2, (a0)", 0x818283f4);
            t.gives(RESERVE + "sc.w" + order + " a2, a1, (a0)", 0);
            t.gives("la a0, d\nli a1, 1\namoadd.w" + order + " a3, a1, (a0)\nlw a2, 0(a0)", 0x818283f5);
            t.gives("la a0, d\nli a1, 1\namomaxu.w" + order + " a2, a1, (a0)", 0x818283f4);
        }
    }

    private static final String RESERVE = "la a0, d\nli a1, 9\nlr.w a3, (a0)\n";
    private static final String STORE = "\nla a0, d\nsc.w a2, a1, (a0)";

    private static void reserved() {
        c.sentence("long ones", "K 2, B 0: the word: d, and the word is RESERVED (in place of another one).");
        t.gives("la a0, d\nlr.w a2, (a0)", 0x818283f4);
        t.gives(RESERVE + STORE, 0);
        t.gives(RESERVE + "addi a4, a0, 4\nlr.w a3, (a4)" + STORE, 1);
        t.gives(RESERVE + "addi a0, a0, 4\nlr.w a3, (a0)\nsc.w a2, a1, (a0)", 0);
        t.gives(RESERVE + "lr.w a3, (a0)" + STORE, 0);
        t.gives(RESERVE + "lr.w a3, (zero)" + STORE, 1);
    }

    private static void reservedOnce() {
        c.sentence("long ones", "K 3: if the word is reserved, it becomes b and d is 0, else d is 1; nothing is"
                + " reserved then.");
        t.gives(RESERVE + "sc.w a3, a1, (a0)\nlw a2, 0(a0)", 9);
        t.gives(RESERVE + "sc.w a3, a1, (a0)" + STORE, 1);
        t.gives("la a0, d\nli a1, 9\nli a2, 7\nsc.w a2, a1, (a0)", 1);
        t.gives("la a0, d\nli a1, 9\nsc.w a3, a1, (a0)\nlw a2, 0(a0)", 0x818283f4);
        t.gives("li a1, 9\nla a0, d\nlr.w a1, (a0)\nli a1, 9\nsc.w a1, a1, (a0)\nlw a2, 0(a0)", 9);
        t.gives(RESERVE + "sc.w a0, a1, (a0)\nla a0, d\nlw a2, 0(a0)", 9);
    }

    private static void conditionalFails() {
        c.sentence("long ones", "nothing is reserved then");
        // One that is not done ends the reservation of another word, too.
        t.gives(RESERVE + "addi a4, a0, 4\nsc.w a3, a1, (a4)" + STORE, 1);
        t.gives(RESERVE + "addi a4, a0, 4\nsc.w a2, a1, (a4)", 1);
        t.gives(RESERVE + "addi a4, a0, 4\nsc.w a3, a1, (a4)\nlw a2, 4(a0)", MOST);
    }

    private static void reservedWritten() {
        c.sentence("long ones", "Whatever writes a byte of the reserved word - a store, another atomic one, the"
                + " kernel - ends that, too");
        String begin = "la a0, d + 4\nli a1, 9\nlr.w a3, (a0)\n";
        String end = "\nla a0, d + 4\nsc.w a2, a1, (a0)";
        for (int at = -2; at < 6; at++) {
            int due = at >= 0 && at < 4 ? 1 : 0;
            t.gives(begin + "sb a1, " + at + "(a0)" + end, due);
            if (at % 2 == 0) {
                t.gives(begin + "sh a1, " + at + "(a0)" + end, due);
            }
        }
        t.gives(begin + "sw a1, -4(a0)" + end, 0);
        t.gives(begin + "sw a1, 0(a0)" + end, 1);
        t.gives(begin + "sw a1, 4(a0)" + end, 0);
        t.gives(begin + "lw a4, 0(a0)" + end, 0);
        t.gives(begin + "amoor.w a4, zero, (a0)" + end, 1);
        t.gives(begin + "addi a4, a0, -4\namoor.w a4, zero, (a4)" + end, 0);
        t.gives(begin + "addi a4, a0, 4\namoor.w a4, zero, (a4)" + end, 0);
        t.gives(begin + "sw a1, 0(a0)\nlr.w a3, (a0)" + end, 0);
    }

    private static void reservedByKernel() {
        c.sentence("long ones", "the kernel - ends that, too");
        String begin = "la a0, d + 8\nli a1, 9\nlr.w a3, (a0)\n";
        String end = "\nli a1, 9\nla a0, d + 8\nsc.w a2, a1, (a0)";
        int[] pipes = {-8, -4, 0, 4};
        int[] due = {0, 1, 1, 0};
        for (int i = 0; i < pipes.length; i++) {
            t.gives(begin + "addi a0, a0, " + pipes[i] + "\nli a7, 5\necall" + end, due[i]);
        }
        // Reading three bytes from a pipe, at places around the word.
        String pipe = "la a0, d + 32\nli a7, 5\necall\nli a0, 3\nla a1, d\nli a2, 3\nli a7, 7\necall\n";
        int[] places = {5, 6, 8, 11, 12};
        int[] dueOf = {0, 1, 1, 1, 0};
        for (int i = 0; i < places.length; i++) {
            t.gives(pipe + begin + "li a0, 2\nla a1, d + " + places[i] + "\nli a2, 3\nli a7, 6\necall" + end, dueOf[i]);
        }
        t.gives(pipe + begin + "li a0, 2\nla a1, d + 8\nli a2, 0\nli a7, 6\necall" + end, 0);
        t.gives(begin + "li a0, 1\nla a1, d + 8\nli a2, 3\nli a7, 7\necall" + end, 0);
    }

    private static void reservedByOthers() {
        c.sentence("a tick", "a tick of another process than the one before makes it no more reserved (a YIELD to"
                + " itself does not)");
        t.gives(RESERVE + "li a7, 15\necall" + STORE, 0);
        // The child's ticks come in between; its copy of the word is another one.
        TimeMachine x = c.booted("la a0, d\nlr.w a1, (a0)\nli a7, 1\necall\nbeqz a0, 1f\nli a7, 15\necall\nla a0, d\n"
                + "sc.w s0, a1, (a0)\n"
                + "li a7, 21\necall\n1: li a7, 21\necall\n.data\nd: .word 1");
        x.run(1000);
        c.same("the parent's word was reserved no more", x.register(0, 8), 1);
        TimeMachine y = c.booted("la a0, d\nlr.w a1, (a0)\nli a7, 1\necall\nbeqz a0, 1f\nla a0, d\nsc.w s0, a1, (a0)\n"
                + "li a7, 15\necall\n"
                + "li a7, 21\necall\n1: la a0, d\nsc.w s0, a1, (a0)\nli a7, 21\necall\n.data\nd: .word 1");
        y.run(1000);
        c.same("a fork is no tick of another", y.register(0, 8), 0);
        c.same("the child's is not reserved", y.register(1, 8), 1);
        TimeMachine z = c.booted("la a0, d\nlr.w a1, (a0)\nsc.w s0, a1, (a0)\nli a7, 21\necall\n.data\nd: .word 1");
        z.run(3);
        z.outside(3, 5, 0);
        z.outside(0, 0, 0);
        z.run(1);
        c.same("events are no ticks", z.register(0, 8), 0);
    }

    private static void reservedAndGrow() {
        c.sentence("a tick", "a page that goes or comes by GROW leaves it as it is.");
        String grow = "li a7, 14\nli a0, ";
        t.gives(RESERVE + grow + "4096\necall" + STORE, 0);
        String page = grow + "4096\necall\nli a0, 3072\nli a1, 9\nlr.w a3, (a0)\n";
        t.gives(page + grow + "2048\necall\n" + grow + "4096\necall\nli a0, 3072\nsc.w a2, a1, (a0)", 0);
        c.sentence("calls", "sleeps towards nothing; no word is reserved");
        TimeMachine x = new TimeMachine();
        Checks.assemble(x, 0, "la a0, d\nlr.w a1, (a0)\nli a7, 2\nli a0, 1\necall\n.data\nd: .word 1");
        Checks.assemble(x, 1, "la a0, d\nsc.w s0, a1, (a0)\nli a7, 21\necall\n.data\nd: .word 1");
        x.boot(0);
        x.run(100);
        c.same("behind EXEC", x.register(0, 8), 1);
    }

    private static void fences() {
        c.sentence("long ones", "0x0f, F 0 or 1: nothing.");
        t.gives("li a2, 3\nfence\nfence.i", 3);
        for (int f = 0; f < 8; f++) {
            t.ends(f < 2 ? 0 : 4, ".word 0x0f | " + f + " << 12", ".word 0xffff8f8f | " + f + " << 12");
        }
        t.gives("li a2, 3\n.word 0xffff860f", 3);
    }

    private static void counters() {
        c.sentence("long ones", "0xc00 and 0xc02 the lower half of how many were retired, 0xc80 and 0xc82 the upper,"
                + " 0xc01 and 0xc81 of the CLOCK");
        t.gives("rdcycle a2", 0);
        t.gives("nop\nrdinstret a2", 1);
        t.gives("li a2, 5\nrdcycleh a2", 0);
        t.gives("li a2, 5\nrdinstreth a2", 0);
        TimeMachine x = c.booted("rdtime s0\nrdtimeh s1\nrdtime s2\nrdtimeh s3");
        x.outside(3, 0xffffffffL, 0);
        x.run(2);
        c.same("the lower half", x.register(0, 8), -1);
        c.same("the upper half", x.register(0, 9), 0);
        x.outside(3, 1, 0);
        x.run(2);
        c.same("the lower half goes round", x.register(0, 18), 0);
        c.same("into the upper", x.register(0, 19), 1);
    }

    private static void otherCounters() {
        c.sentence("long ones", "F 2 or 3 with A 0, or F 6 or 7 with A 0: d is counter I (unsigned 12 bits)");
        for (int f = 0; f < 8; f++) {
            boolean good = f == 2 || f == 3 || f == 6 || f == 7;
            t.ends(good ? 0 : 4, ".word 0x73 | " + f + " << 12 | 10 << 7 | 0xc00 << 20");
            t.ends(4, ".word 0x73 | " + f + " << 12 | 1 << 15 | 0xc00 << 20", ".word 0x73 | " + f
                    + " << 12 | 16 << 15 | 0xc00 << 20");
        }
        c.sentence("long ones", "other counters are illegal.");
        for (int number : new int[] {0, 1, 0x300, 0xbff, 0xc03, 0xc7f, 0xc83, 0xcff, 0xd00, 0xfff, 0x400, 0x402}) {
            t.ends(4, ".word 0x73 | 2 << 12 | 10 << 7 | " + number + " << 20");
        }
        for (int number : new int[] {0xc00, 0xc01, 0xc02, 0xc80, 0xc81, 0xc82}) {
            t.ends(0, ".word 0x73 | 2 << 12 | 10 << 7 | " + number + " << 20");
        }
        c.sentence("long ones", "0x73: the whole 0x00000073 CALL, 0x00100073 BREAK");
        t.ends(5, "ebreak", "c.ebreak");
        t.ends(4, ".word 0x000000f3", ".word 0x00008073", ".word 0x00200073", ".word 0x001000f3", ".word 0x00108073",
                ".word 0x80000073");
        t.ends(0, "li a7, 4\necall");
    }

    private static void shortStack() {
        c.sentence("short ones", "Q 0: F 0 d' = x2 + U, bits 5 .. 12: U[5:4|9:6|2|3], U not 0.");
        for (int u = 4; u <= 1020; u = u < 16 ? u + 4 : u * 2 - 4) {
            t.gives("c.addi4spn a2, " + u, 65536 + u);
        }
        t.gives("c.addi4spn a2, 1020", 65536 + 1020);
        c.sentence("short ones", "F 2 d' = word at a' + U, F 6 word at a' + U = s'");
        for (int u : new int[] {0, 4, 8, 60, 64, 124}) {
            t.gives("la a0, d\nli a1, 77\nsw a1, " + u + "(a0)\nc.lw a2, " + u + "(a0)", 77);
            t.gives("la a0, d\nli a1, 77\nc.sw a1, " + u + "(a0)\nlw a2, " + u + "(a0)", 77);
        }
        c.sentence("short ones", "F 3, D 2: x2 += bits 12, 2 .. 6: [9] and [4|6|8:7|5], signed, not 0; another D: x D"
                + " = N << 12, N not 0.");
        for (int e : new int[] {-512, -256, -16, 16, 32, 64, 128, 256, 496}) {
            t.gives("c.addi16sp " + e + "\nmv a2, sp", 65536 + e);
        }
        for (int n : new int[] {-32, -1, 1, 31}) {
            t.gives("c.lui a2, " + n, n << 12);
        }
    }

    private static void shortSums() {
        c.sentence("short ones", "Q 1: F 0 x D += N.");
        for (int n : new int[] {-32, -1, 0, 1, 31}) {
            t.gives("li a2, 100\nc.addi a2, " + n, 100 + n);
            t.gives("c.li a2, " + n, n);
            t.gives("li a2, 0x55555555\nc.andi a2, " + n, 0x55555555 & n);
        }
        c.sentence("short ones", "3, bit 12 being 0, bits 5, 6: 0 a' - s', 1 ^, 2 |, 3 &; the result goes to a'.");
        t.gives("li a2, 0\nli a3, 1\nc.sub a2, a3", -1);
        t.gives("li a2, 12\nli a3, 10\nc.xor a2, a3", 6);
        t.gives("li a2, 12\nli a3, 10\nc.or a2, a3", 14);
        t.gives("li a2, 12\nli a3, 10\nc.and a2, a3", 8);
        for (int r = 8; r < 16; r++) {
            int other = 8 + (r + 3) % 8;
            String set = "li x" + r + ", 12\nli x" + other + ", 10\n";
            String end = "\nmv a2, x" + r;
            t.gives(set + "c.sub x" + r + ", x" + other + end, 2);
            t.gives(set + "c.or x" + r + ", x" + other + end, 14);
            t.gives(set + "c.andi x" + r + ", -5" + end, 8);
            t.gives(set + "c.srli x" + r + ", 2" + end, 3);
            t.gives(set + "c.srai x" + r + ", 1" + end, 6);
            t.gives("la x" + other + ", d\nc.lw x" + r + ", 4(x" + other + ")" + end, MOST);
            t.gives("la x" + other + ", d\nli x" + r + ", 9\nc.sw x" + r + ", 4(x" + other + ")\nlw a2, 4(x" + other
                    + ")", 9);
            t.gives("c.addi4spn x" + r + ", 8" + end, 65544);
        }
        c.sentence("short ones", "F 1 as jump and link with D 1, F 5 with D 0");
        t.gives("j 2f\n1: j 3f\n.space 2038\n2: c.jal 1b\n3: mv a2, ra", 2044);
        t.gives("c.jal 2f\n.space 2044\n2: mv a2, ra", 2);
        t.gives("li ra, 7\nc.j 2f\n.space 2044\n2: mv a2, ra", 7);
        c.sentence("short ones", "F 6, 7: to place + T if a' is 0, or is not");
        for (int a : new int[] {0, 1, -1, LEAST}) {
            t.gives("li a0, " + a + "\nli a2, 1\nc.beqz a0, 2f\nli a2, 2\n2: nop", a == 0 ? 1 : 2);
            t.gives("li a0, " + a + "\nli a2, 1\nc.bnez a0, 2f\nli a2, 2\n2: nop", a != 0 ? 1 : 2);
        }
        t.gives("li a0, 0\nli a2, 1\nc.beqz a0, 2f\n.space 252\n2: c.nop", 1);
        t.gives("li a0, 1\nli a2, 1\nj 2f\n1: j 3f\n.space 252\n2: c.bnez a0, 1b\n3: c.nop", 1);
    }

    private static void shortShifts() {
        c.sentence("short ones", "0 a' >>> and 1 a' >> by bits 12 and 2 .. 6 as a number, bit 12 being 0");
        for (int n : new int[] {0, 1, 31}) {
            t.gives("li a2, 0x80000001\nc.srli a2, " + n, 0x80000001 >>> n);
            t.gives("li a2, 0x80000001\nc.srai a2, " + n, 0x80000001 >> n);
            t.gives("li a2, 0x80000001\nc.slli a2, " + n, 0x80000001 << n);
        }
        t.ends(4, ".half 0x9001", ".half 0x9405", ".half 0x1002", ".half 0x107e");
    }

    private static void shortMoves() {
        c.sentence("short ones", "F 4, bit 12 0: B 0: jump to x D, D not 0; else x D = x B.");
        t.gives("la a0, 1f\nli ra, 5\nc.jr a0\nnop\n1: mv a2, ra", 5);
        t.gives("li t6, -9\nc.mv a2, t6", -9);
        t.gives("li ra, 5\nli a2, 7\nli t6, -9\nc.mv a2, t6", -9);
        c.sentence("short ones", "Bit 12 1: D 0 and B 0 BREAK; B 0: x1 = place + 2, jump to x D; else x D += x B.");
        t.gives("la a0, 1f\nc.jalr a0\nnop\n1: mv a2, ra", 10);
        t.gives("la ra, 1f\nc.jalr ra\nnop\n1: mv a2, ra", 10);
        t.gives("li t6, -9\nli a2, 4\nc.add a2, t6", -5);
        t.gives("li a2, 0x40000000\nc.add a2, a2", LEAST);
        t.ends(5, ".half 0x9002");
        t.ends(4, ".half 0x8002");
    }

    private static void shortStackWords() {
        c.sentence("short ones", "F 2 x D = word at x2 + U: bit 12 U[5], bits 2 .. 6 U[4:2|7:6], D not 0.");
        for (int u : new int[] {0, 4, 16, 28, 32, 64, 128, 252}) {
            t.gives("c.addi16sp -256\nli a1, 88\nsw a1, " + u + "(sp)\nc.lwsp a2, " + u, 88);
            t.gives("c.addi16sp -256\nli a1, 88\nc.swsp a1, " + u + "\nlw a2, " + u + "(sp)", 88);
        }
        t.ends(4, "c.addi16sp -256\n.half 0x4002", "c.addi16sp -256\n.half 0x5002");
    }
}
