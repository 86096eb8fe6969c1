/** The boundary cases that the document names of sections, directives, lengths and faults: promises 4 to 9. */
public final class EdgeProgramTest {
    private static final Checks c = new Checks();
    private static final Texts t = new Texts(c);

    public static void main(String[] args) {
        sectionsGoOn();
        dataBegins();
        labelsOfSections();
        ends();
        constants();
        lists();
        texts();
        spaces();
        aligns();
        shortJumpsGrow();
        shortBranchesGrow();
        branchesGrow();
        atOnce();
        tillThereIsNone();
        faultyTargets();
        faultOne();
        faultTwo();
        faultThree();
        faultFour();
        faultsOfFixed();
        faultSeven();
        faultsBehind();
        faultTen();
        firstLineFirst();
        assembled();
        kept();
        programsOfBooted();
        wrongPrograms();
        sizes();
        images();
        labels();
        before();
        lines();
        c.finish();
    }

    private static String zeros(int n) {
        return ".space " + n + "\n";
    }

    private static void sectionsGoOn() {
        c.sentence("sections", "what follows .text (as at first), or .data, is put behind what this has already.");
        t.makes(".byte 1\n.data\n.byte 3\n.text\n.byte 2\n.data\n.byte 4", "0102" + "00".repeat(1022) + "0304");
        t.makes(".text\n.byte 1\n.text\n.byte 2", "0102");
        t.makes(".data\n.byte 1", "01");
        t.faults(1, ".text 1", ".data a", ".text .data");
    }

    private static void dataBegins() {
        c.sentence("sections", "The data begins at the first multiple of 1024 that is not below the text's size"
                + " (which begins at 0).");
        int[] sizes = {0, 1, 1023, 1024, 1025, 2048, 2049};
        int[] due = {0, 1024, 1024, 1024, 2048, 2048, 3072};
        for (int i = 0; i < sizes.length; i++) {
            TimeMachine x = t.fine(zeros(sizes[i]) + ".data\na: .byte 9");
            c.same("the data of a text of " + sizes[i], x.program(0, 1), due[i]);
            c.same("its label", x.label(0, 0), due[i]);
            c.same("its byte", x.image(0, due[i]), 9);
            TimeMachine y = t.fine(zeros(sizes[i]));
            c.same("of no data", y.program(0, 1), due[i]);
        }
    }

    private static void labelsOfSections() {
        c.sentence("sections", "A label is the address of what comes next in its section (of an .align: before it).");
        t.makes(".byte 1\na: .align 2\n.byte a", "01000000" + "01");
        t.makes("a: .data\n.byte 1\n.text\n.byte 2, a", "0200" + "00".repeat(1022) + "01");
        TimeMachine x = t.fine("nop\na: .data\nb: .text\nc: nop\nd:\n.data\ne: .word 1\nf:");
        int[] due = {4, 1024, 4, 8, 1024, 1028};
        for (int k = 0; k < due.length; k++) {
            c.same("label " + k, x.label(0, k), due[k]);
        }
        x = t.fine("c.nop\na: .align 4\nb: .align 4\nc:");
        c.same("before the first .align", x.label(0, 0), 2);
        c.same("behind it", x.label(0, 1), 16);
        c.same("behind one of no bytes", x.label(0, 2), 16);
    }

    private static void ends() {
        c.sentence("sections", "ALL ends where the data does, or, if that is empty, where the text does.");
        c.same("text alone", t.fine(zeros(5)).program(0, 2), 5);
        c.same("nothing", t.fine("").program(0, 2), 0);
        c.same("empty data", t.fine(zeros(5) + ".data\na: .space 0").program(0, 2), 5);
        c.same("empty data", t.fine(zeros(5) + ".data\n.align 3").program(0, 2), 5);
        c.same("one byte of data", t.fine(zeros(5) + ".data\n.byte 0").program(0, 2), 1025);
        c.same("data alone", t.fine(".data\n.byte 0").program(0, 2), 1);
        c.same("data alone: no text", t.fine(".data\n.byte 0").program(0, 0), 0);
    }

    private static void constants() {
        c.sentence("directives", ".equ name, e (fixed: a constant)");
        t.makes(".equ a, 0xffffffff\n.equ b, -2147483648\n.word a, b", "ffffffff" + "00000080");
        c.same("it has no bytes", t.size(".equ a, 1"), 0);
        t.faults(1, ".equ", ".equ a", ".equ a,", ".equ a 1", ".equ 1, 1", ".equ a, 1, 2", ".equ 'a', 1",
                ".equ \"a\", 1", ".equ (a), 1",
                ".equ , 1", ".equ a, 1 2", ".equ 1f, 1");
    }

    private static void lists() {
        c.sentence("directives", ".byte .half .word with one or more e: the lowest bits, the lowest byte first");
        t.makes(".byte 0x12345678, -1, 256, 255, -256", "78ff00ff00");
        t.makes(".half 0x12345678, -1, 65536, 65535", "7856ffff0000ffff");
        t.makes(".word 0x12345678, -1", "78563412ffffffff");
        t.makes(".byte 1\n.half 2\n.word 3", "01" + "0200" + "03000000");
        t.faults(1, ".byte", ".half", ".word", ".byte ,1", ".byte 1,", ".byte 1,,2", ".byte 1 2", ".word 1;2");
        StringBuilder many = new StringBuilder(".byte 0");
        for (int i = 1; i < 3000; i++) {
            many.append(",").append(i & 255);
        }
        TimeMachine x = t.fine(many.toString());
        c.same("many", x.program(0, 2), 3000);
        c.same("the last of them", x.image(0, 2999), 2999 & 255);
    }

    private static void texts() {
        c.sentence("directives", ".ascii .asciz with one or more texts, a 0 behind each of .asciz");
        t.makes(".ascii \"a\", \"b\", \"\"", "6162");
        t.makes(".asciz \"a\", \"b\", \"\"", "6100620000");
        t.makes(".asciz \"\"", "00");
        t.faults(1, ".ascii", ".asciz", ".ascii \"a\",", ".asciz \"a\" 1", ".ascii , \"a\"", ".asciz a");
    }

    private static void spaces() {
        c.sentence("directives", ".space e: fixed, 0 .. 32768: so many 0");
        t.makes(".byte 1\n.space 0\n.byte 2", "0102");
        t.makes(".byte 1\n.space 1\n.byte 2", "010002");
        c.same("the most", t.size(".space 32768"), 32768);
        t.faults(6, ".space -1", ".space 32769", ".space 0x80000000", ".space 0xffffffff", ".space 0x7fffffff");
        t.faults(1, ".space", ".space 1, 2", ".space 1 2");
    }

    private static void aligns() {
        c.sentence("directives", ".align e: fixed, 0 .. 10: 0 up to a multiple of 2 to the e.");
        for (int e = 0; e <= 10; e++) {
            c.same("behind a byte", t.size(".byte 1\n.align " + e), 1 << e);
            c.same("at 0", t.size(".align " + e), 0);
            c.same("where one stands already", t.size(zeros(1 << e) + ".align " + e), 1 << e);
            c.same("one byte behind", t.size(zeros((1 << e) + 1) + ".align " + e), e == 0 ? 2 : 2 << e);
        }
        t.makes(".byte 1\n.align 2\n.byte 2", "0100000002");
        t.faults(6, ".align -1", ".align 11", ".align 32");
        t.faults(1, ".align", ".align 1, 2");
        TimeMachine x = t.fine("nop\n.data\n.byte 1\n.align 10\n.byte 2");
        c.same("in the data", x.image(0, 2048), 2);
    }

    private static void shortJumpsGrow() {
        c.sentence("lengths", "jal of one operand, call, j and tail are c.jal and c.j at first (two bytes), and"
                + " become jal (four).");
        String[] names = {"jal ", "call ", "j ", "tail "};
        String[] shorts = {"c.jal ", "c.jal ", "c.j ", "c.j "};
        String[] longs = {"jal ra, ", "jal ra, ", "jal zero, ", "jal zero, "};
        for (int i = 0; i < names.length; i++) {
            t.reads(names[i] + "a\n" + zeros(2044) + "a:", 0, shorts[i] + ".+2046");
            t.reads(names[i] + "a\n" + zeros(2046) + "a:", 0, longs[i] + ".+2050");
            t.reads("a:" + zeros(2048) + names[i] + "a", 2048, shorts[i] + ".-2048");
            t.reads("a:" + zeros(2050) + names[i] + "a", 2050, longs[i] + ".-2050");
            t.reads(names[i] + ".", 0, shorts[i] + ".+0");
            t.reads(names[i] + ". + 1048574", 0, longs[i] + ".+1048574");
            t.reads(names[i] + ". - 1048576", 0, longs[i] + ".-1048576");
            t.faults(10, names[i] + ". + 1048576", names[i] + ". - 1048578", names[i] + ". + 1");
        }
        c.same("jal of two operands has four", t.size("jal ra, ."), 4);
    }

    private static void shortBranchesGrow() {
        c.sentence("lengths", "beqz and bnez with a register 8 .. 15 are c.beqz, c.bnez (two) at first, and become"
                + " beq, bne (four)");
        for (int r = 0; r < 32; r++) {
            c.same("beqz x" + r, t.size("beqz x" + r + ", ."), r >= 8 && r <= 15 ? 2 : 4);
            c.same("bnez x" + r, t.size("bnez x" + r + ", ."), r >= 8 && r <= 15 ? 2 : 4);
        }
        t.reads("beqz s0, a\n" + zeros(252) + "a:", 0, "c.beqz s0, .+254");
        t.reads("beqz s0, a\n" + zeros(254) + "a:", 0, "beq s0, zero, .+258");
        t.reads("bnez a5, a\n" + zeros(252) + "a:", 0, "c.bnez a5, .+254");
        t.reads("bnez a5, a\n" + zeros(254) + "a:", 0, "bne a5, zero, .+258");
        t.reads("a:" + zeros(256) + "beqz s0, a", 256, "c.beqz s0, .-256");
        t.reads("a:" + zeros(258) + "beqz s0, a", 258, "beq s0, zero, .-258");
        t.reads("a:" + zeros(256) + "bnez a5, a", 256, "c.bnez a5, .-256");
        t.reads("a:" + zeros(258) + "bnez a5, a", 258, "bne a5, zero, .-258");
        for (String other : new String[] {"bgez", "bltz", "blez", "bgtz"}) {
            c.same(other + " has no short one", t.size(other + " s0, ."), 4);
        }
        c.same("nor has beq", t.size("beq s0, zero, ."), 4);
    }

    private static void branchesGrow() {
        c.sentence("lengths", "these, and all branches whose names begin with b, become eight bytes: the branch with"
                + " the opposite condition (F ^ 1) over what follows, and jal zero, t.");
        String[] names = {"beq a0, a1,", "bne a0, a1,", "blt a0, a1,", "bge a0, a1,", "bltu a0, a1,", "bgeu a0, a1,",
            "beqz a0,",
            "bnez a0,", "beqz t0,", "bnez t0,", "bgez a0,", "bltz a0,", "blez a0,", "bgtz a0,", "bgt a0, a1,",
            "ble a0, a1,",
            "bgtu a0, a1,", "bleu a0, a1,"};
        String[] first = {"bne a0, a1", "beq a0, a1", "bge a0, a1", "blt a0, a1", "bgeu a0, a1", "bltu a0, a1",
            "bne a0, zero",
            "beq a0, zero", "bne t0, zero", "beq t0, zero", "blt a0, zero", "bge a0, zero", "blt zero, a0",
            "bge zero, a0", "bge a1, a0",
            "blt a1, a0", "bgeu a1, a0", "bltu a1, a0"};
        for (int i = 0; i < names.length; i++) {
            c.same("the last that four can have", t.size(names[i] + " a\n" + zeros(4090) + "a:"), 4094);
            String far = names[i] + " a\n" + zeros(4092) + "a:";
            t.reads(far, 0, first[i] + ", .+8");
            t.reads(far, 4, "jal zero, .+4096");
            c.same("the last that four can have", t.size("a:" + zeros(4096) + names[i] + " a"), 4100);
            String back = "a:" + zeros(4098) + names[i] + " a";
            t.reads(back, 4098, first[i] + ", .+8");
            t.reads(back, 4102, "jal zero, .-4102");
            t.faults(10, names[i] + " . + 1048580", names[i] + " . - 1048574", names[i] + " . + 1");
            t.allFine(names[i] + " . + 1048578", names[i] + " . - 1048572");
        }
        t.reads("beq t6, t6, . + 5000", 0, "bne t6, t6, .+8");
        t.reads("bgeu s2, t5, . + 5000", 0, "bltu s2, t5, .+8");
    }

    private static void atOnce() {
        c.sentence("lengths", "All addresses are found; then all those whose offset is too far, or odd, for their"
                + " length (t having no fault 8 or 9) and that can be longer get the next one, at once");
        // If only the first grew before addresses are found again, the second would be near enough.
        String text = "j b\nj a\n.align 4\n" + zeros(2034) + "a:\n" + zeros(2000) + "b:";
        c.same("both grow", t.size(text), 16 + 2034 + 2000);
        t.reads(text, 4, "jal zero, .+2046");
        // An odd offset makes it grow, too: what is behind shows how long it is.
        t.fault("j . + 1\nj a\n" + zeros(2042) + "a:", 10, 1);
    }

    private static void tillThereIsNone() {
        c.sentence("lengths", "and this again, till there is none.");
        // Each one is too far only when the one behind it has grown.
        c.same("one pushes the other", t.size("j a\nj b\n" + zeros(2042) + "a:\n" + zeros(6) + "b:"), 4 + 4 + 2042 + 6);
        c.same("no one is pushed", t.size("j a\nj b\n" + zeros(2042) + "a:\n" + zeros(2) + "b:"), 2 + 2 + 2042 + 2);
        StringBuilder chain = new StringBuilder();
        for (int i = 0; i < 100; i++) {
            chain.append("j l").append(i).append('\n');
        }
        chain.append(".space 1846\n");
        for (int i = 0; i < 100; i++) {
            chain.append("l").append(i).append(": c.nop\n");
        }
        // Each is at the same distance, 2046; one that is farther makes them all grow, one behind the other.
        c.same("none grows", t.size(chain.toString()), 200 + 1846 + 200);
        String pushed = chain.toString().replace("l99: c.nop", "c.nop\nl99: c.nop");
        c.same("all grow", t.size(pushed), 400 + 1846 + 202);
        c.same("two steps of one alone", t.size("beqz a0, . + 5000"), 8);
        c.same("two steps of one", t.size("beqz a0, a\n" + zeros(4090) + "j b\na:\n" + zeros(2046) + "b:"), 8 + 4090 + 4
                + 2046);
    }

    private static void faultyTargets() {
        c.sentence("lengths", "(t having no fault 8 or 9)");
        // Were they longer, all would end above 32768.
        t.fault(zeros(32766) + "j foo", 8, 2);
        t.fault(zeros(32766) + "j 1f", 8, 2);
        t.fault(zeros(32766) + "j 1 / 0", 9, 2);
        t.fault(zeros(32764) + "beq a0, a0, foo + 1 / 0", 8, 2);
        t.fault(zeros(32766) + "bnez a0, 0 % 0", 9, 2);
        t.fault(zeros(32766) + "j 0", 7, 0);
        t.fault(zeros(32766) + "j . + 1", 7, 0);
    }

    private static void faultOne() {
        c.sentence("faults", "1 a character or token that can't be there, or a line that ends too early (also where a"
                + " register must be).");
        t.faults(1, "nop nop", "nop,", "add", "add a0", "add a0,", "add a0, a1,", "lw", "lw a0", "lw a0,", "lw a0, 1",
                "lw a0, 1(",
                "lw a0, 1(a1", "sw a0, 1(a1) 1", "j", "beq a0, a1", "beq a0, a1,", "beqz", "li a0", "li a0,", "la a0",
                "lui", "c.jr",
                "c.lw a0, 0(", "lr.w a0, (", "lr.w a0,", "rdcycle", "add a0 a1 a2", "add @", "add a0, a1, 'x", "5",
                "a: b: 5", "+", "li a0, 1,");
    }

    private static void faultTwo() {
        c.sentence("faults", "2 the name of a statement that there is not.");
        t.faults(2, "foo", "a: foo", "Nop", "NOP", "add.", "addd a0, a0, a0", "ad a0, a0, a0", ".org", ".Text",
                ".texts", "c.sub.", "c", ".",
                "_", "c.jalr.", "subi a0, a0, 1", "x1", "lr.w.", "lr a0, (a0)", "sltz. a0, a0", "1: nop2", ".byt 1",
                ".bytes 1");
        t.faults(2, "foo @", "foo \"", "foo 99999999999");
    }

    private static void faultThree() {
        c.sentence("faults", "3 no register where one must be, or not one of those said.");
        t.faults(3, "add 5, a0, a0", "add foo, a0, a0", "add a0, (, a0", "add a0, a1, 'x'", "add a0, \"x\", a1",
                "add ., a0, a0",
                "add 1f, a0, a0", "lw a0, 0(0)", "lw 5, 0(a0)", "beqz 0, .", "li 5, 5", "la foo, foo", "lr.w a0, (5)",
                "c.jr zero",
                "c.lw t0, 0(a0)", "c.lui sp, 1", "c.mv a0, zero", "c.lwsp x0, 4", "jalr 5", "jr 5", "mv a0, a8");
    }

    private static void faultFour() {
        c.sentence("faults", "4 a name that is defined already, or of a register, as a label or constant.");
        t.faults(4, "a: a:", "ra:", ".equ ra, 1", "a: .equ a, 1", "x31: nop", "fp:", ".equ x0, foo", "a: a: foo");
        t.fault("a:\nb:\na:", 4, 3);
        t.fault(".equ a, 1\n.equ a, 1", 4, 2);
        t.fault(".equ a, 1\na:", 4, 2);
        t.fault("a:\n.equ a, foo", 4, 2);
        t.allFine("1: 1:\n1:", "a: A:", "nop: nop", ".word b\nb:", "x32: .equ x33, 1");
    }

    private static void faultsOfFixed() {
        c.sentence("faults", "Of an e that must be fixed, when it is read to its end: 5 it is not; 9 it has a"
                + " division by 0; 6 it is not as said there.");
        t.faults(5, ".space foo", ".space foo / 0", ".space 0 - 1 + foo", ".align .", ".space 1 / 0 + foo",
                "li a0, foo", ".equ a, 1f");
        t.faults(9, ".space 1 / 0", ".space 1 % 0", ".space 0 - 1 / 0", ".align 1 / (1 - 1)", "li a0, 5 % 0",
                ".equ a, 0 / 0",
                ".space 40000 / 0");
        t.faults(6, ".space -1", ".space 32769", ".align 11", ".align -1");
        c.sentence("faults", "when it is read to its end");
        t.faults(1, ".space foo +", ".space (foo", ".space foo + )", ".space 1 / 0 *", ".space 40000 -",
                ".align %hi(foo");
        t.faults(5, ".space foo bar", ".space foo )", ".space foo, 1", "li a0, foo bar", ".equ a, foo @");
        t.faults(9, ".space 1 / 0 bar", ".space 1 / 0, 1");
        t.faults(6, ".space 40000 bar", ".align 11, 1");
    }

    private static void faultSeven() {
        c.sentence("faults", "If there is none of these, and all is laid out: 7 all ends above 32768 (told with line"
                + " 0).");
        t.allFine(".space 32768", ".space 31744\n.data\n.space 1024", ".space 31743\n.data\n.space 1024",
                ".data\n.space 32768",
                ".space 32768\n.data");
        t.fault(".space 32768\n.byte 1", 7, 0);
        t.fault(".byte 1\n.space 32768", 7, 0);
        t.fault(".space 31744\n.data\n.space 1025", 7, 0);
        t.fault(".space 31745\n.data\n.space 1", 7, 0);
        t.fault(".space 32768\n.data\n.byte 1", 7, 0);
        t.fault(".data\n.space 32768\n.space 1", 7, 0);
        t.fault(".space 32768\n".repeat(2000), 7, 0);
        t.fault(".space 32768\n.byte 1\nfoo", 2, 3);
        t.fault(".space 32769\n.space 32768", 6, 1);
        t.fault(".space 32767\n.align 2\n.byte foo", 7, 0);
        t.fault(".byte foo\n.space 32768", 7, 0);
    }

    private static void faultsBehind() {
        c.sentence("faults", "If not, lines from the first one on, from the left, of each e in this order: 8 a name"
                + " that there is not, or no near label; 9 a division by 0");
        t.faults(8, ".word foo", ".word 1f", ".word 1b", ".word 1, 2, foo", ".word foo / 0", ".word 1 / 0 + foo",
                ".word 1 / foo",
                "addi a0, a0, foo + 4096", "addi a0, a0, 5000 + 1f", "la a0, foo", "lw a0, foo(a0)");
        t.faults(9, ".word 1 / 0", ".word 1 % 0", ".word 1 / 0, foo", "addi a0, a0, 4096 / 0", "a: .word 1 / (a - a)",
                "la a0, 1 / 0",
                ".byte 1, 2 % (0 * 5)");
        t.word("0 / 5", 0);
    }

    private static void faultTen() {
        c.sentence("faults", "10 it, or the offset, is not as said (for its length).");
        t.faults(10, "addi a0, a0, 2048", "lui a0, -1", "jal ra, . + 1", "c.j . + 2048", "c.beqz a0, . + 256",
                "c.lw a0, 2(a0)",
                "sw a0, 4096(a0)", "slli a0, a0, 32", "beq a0, a0, 3", "j 0x7fffffff");
        t.allFine(".byte 256", ".half -70000", "la a0, 0x7fffffff", "li a0, 0x7fffffff", "j . + 1048574");
    }

    private static void firstLineFirst() {
        c.sentence("faults", "Lines are read from the first one on, each from the left; the first of these ends it");
        t.fault("foo\nbar", 2, 1);
        t.fault("nop\nadd 5, @\nfoo", 3, 2);
        t.fault("add a0, 5, foo bar", 3, 1);
        t.fault("x0: foo", 4, 1);
        t.fault("a: a: foo", 4, 1);
        t.fault("addi a0, a0, 5000\n.word foo\nfoo", 2, 3);
        t.fault("addi a0, a0, 5000\n.word foo", 10, 1);
        t.fault(".word foo\naddi a0, a0, 5000", 8, 1);
        t.fault(".data\n.word foo\n.text\naddi a0, a0, 5000", 8, 2);
        t.fault("lw a0, 5000(5)", 3, 1);
    }

    private static void assembled() {
        c.sentence("promise 4", "The tape is assembled as program p (0 .. 3), in place of one that was there, and is"
                + " empty then: 0, or the fault + 16 * its line");
        TimeMachine x = new TimeMachine();
        for (int p = 0; p <= 3; p++) {
            c.same("assemble(" + p + ")", Checks.assemble(x, p, ".byte " + (p + 1)), 0);
            c.same("the tape", x.count(15), 0);
        }
        c.same("in place of one", Checks.assemble(x, 2, ".byte 9, 9"), 0);
        int[] first = {1, 2, 9, 4};
        for (int p = 0; p <= 3; p++) {
            c.same("the first byte of " + p, x.image(p, 0), first[p]);
            c.same("the size of " + p, x.program(p, 2), p == 2 ? 2 : 1);
        }
        c.same("a fault in line 5", Checks.assemble(x, 0, "\n\n\n\nfoo"), 2 + 16 * 5);
        c.same("fault 10", Checks.assemble(x, 0, "addi a0, a0, 2048"), 10 + 16);
        c.same("fault 7", Checks.assemble(x, 0, ".space 32768\nnop"), 7);
        c.same("an empty tape", x.assemble(0), 0);
        c.same("is a program of no bytes", x.program(0, 2), 0);
    }

    private static void kept() {
        c.sentence("promise 4", "the program that was stays.");
        TimeMachine x = new TimeMachine();
        Checks.assemble(x, 1, "a: .equ k, 1\n.byte 7, 8\nb:");
        for (String text : new String[] {"foo", ".space 32768\nnop", "c: d: .byte 1, 2, 3, 4\n.word foo", "\u0001"}) {
            c.same("a fault", Checks.assemble(x, 1, text) != 0 ? 1 : 0, 1);
            c.same("its bytes", Checks.image(x, 1), "0708");
            c.same("its labels", x.program(1, 3), 2);
            c.same("its label", x.label(1, 1), 2);
            c.same("its constants", x.program(1, 4), 1);
            c.same("its line", x.line(1, 1), 2);
        }
    }

    private static void programsOfBooted() {
        c.sentence("promise 4", "A machine that is booted has its programs (for EXEC, too) as they were then, up to"
                + " the next booting.");
        String exec = "li a7, 2\nli a0, 1\necall\nmv s0, a0\nli a7, 21\necall";
        TimeMachine x = new TimeMachine();
        Checks.assemble(x, 0, exec);
        Checks.assemble(x, 1, "li s1, 11\nli a7, 21\necall");
        x.boot(0);
        Checks.assemble(x, 1, "li s1, 12\nli a7, 21\necall");
        Checks.assemble(x, 0, "nop");
        x.run(100);
        c.same("EXEC of what it was", x.register(0, 9), 11);
        x.go(0);
        c.same("the booted one as it was", Checks.text(x, 0, 0), "c.li a7, 2");
        x.run(100);
        c.same("again", x.register(0, 9), 11);
        Checks.assemble(x, 0, exec);
        x.boot(0);
        x.run(100);
        c.same("up to the next booting", x.register(0, 9), 12);
        Checks.assemble(x, 1, "li s1, 13\nli a7, 21\necall");
        Checks.replay(x, 0, 0);
        x.run(100);
        c.same("a log boots, too", x.register(0, 9), 13);
        TimeMachine y = new TimeMachine();
        Checks.assemble(y, 0, exec);
        y.boot(0);
        Checks.assemble(y, 1, "nop");
        y.run(100);
        c.same("one that there was not then", y.register(0, 8), -2);
        c.same("a fault of replay boots nothing", Checks.replay(y, 0, 9), -1 - (2 + 8));
        y.go(0);
        y.run(100);
        c.same("one that there was not then", y.register(0, 8), -2);
        allAnew();
    }

    /** All four that the booted machine has are other ones now, and one more has a fault. */
    private static void allAnew() {
        TimeMachine x = new TimeMachine();
        for (int p = 0; p < 4; p++) {
            Checks.assemble(x, p, "li s1, " + (10 + p) + "\nli a0, " + (p + 1) + "\nli a7, 2\necall");
        }
        x.boot(0);
        for (int p = 0; p < 4; p++) {
            Checks.assemble(x, p, "li s1, " + (20 + p) + "\nli a0, " + (p + 1) + "\nli a7, 2\necall\n.data\n.byte "
                    + p);
        }
        c.same("a fault", Checks.assemble(x, 2, ".byte 1, 2, 3, 4, 5, 6, 7, 8\n.byte foo"), 8 + 16 * 2);
        for (int p = 0; p < 4; p++) {
            c.same("what is assembled", x.image(p, 1024), p);
            x.run(1);
            c.same("what was booted", x.register(0, 9), 10 + p);
            x.run(3);
        }
        c.same("there is no program 4", x.register(0, 10), -2);
        x.boot(0);
        for (int p = 0; p < 4; p++) {
            x.run(1);
            c.same("booted anew", x.register(0, 9), 20 + p);
            x.run(3);
        }
    }

    private static void wrongPrograms() {
        c.sentence("promise 4", "IllegalArgumentException when p is not 0 .. 3.");
        TimeMachine x = new TimeMachine();
        Checks.feed(x, "nop");
        for (int p : new int[] {-1, 4, Integer.MIN_VALUE, Integer.MAX_VALUE}) {
            c.argument("assemble(" + p + ")", () -> x.assemble(p));
            c.same("the tape stays", x.count(15), 3);
        }
        c.same("assemble(3)", x.assemble(3), 0);
    }

    private static void sizes() {
        c.sentence("promise 5", "-1 when it is not assembled, or for others.");
        TimeMachine x = new TimeMachine();
        Checks.assemble(x, 2, "a: b: 1: nop\n.equ k, 1\n.equ l, 2\n.equ m, 3\n.data\n.byte 1");
        int[] due = {4, 1024, 1025, 2, 3};
        for (int what = -2; what <= 6; what++) {
            c.same("program(2, " + what + ")", x.program(2, what), what >= 0 && what <= 4 ? due[what] : -1);
            for (int p : new int[] {-1, 0, 1, 3, 4, Integer.MIN_VALUE, Integer.MAX_VALUE}) {
                c.same("program(" + p + ", " + what + ")", x.program(p, what), -1);
            }
        }
        c.same("a what that is far", x.program(2, Integer.MAX_VALUE), -1);
        c.same("a what that is far", x.program(2, Integer.MIN_VALUE), -1);
    }

    private static void images() {
        c.sentence("promise 6", "Byte k of program p; -1 when there is none.");
        TimeMachine x = new TimeMachine();
        Checks.assemble(x, 0, ".byte 255, 0, 128\n.data\n.byte 127");
        int[] at = {-1, 0, 1, 2, 3, 1023, 1024, 1025, Integer.MIN_VALUE, Integer.MAX_VALUE};
        int[] due = {-1, 255, 0, 128, 0, 0, 127, -1, -1, -1};
        for (int i = 0; i < at.length; i++) {
            c.same("image(0, " + at[i] + ")", x.image(0, at[i]), due[i]);
        }
        for (int p : new int[] {-1, 1, 4}) {
            c.same("image(" + p + ", 0)", x.image(p, 0), -1);
        }
        TimeMachine full = t.fine(".space 32767\n.byte 5");
        c.same("the last byte that there can be", full.image(0, 32767), 5);
        c.same("behind it", full.image(0, 32768), -1);
        c.same("of an empty one", t.fine("").image(0, 0), -1);
    }

    private static void labels() {
        c.sentence("promise 7", "The address of label k of program p (of those with names, in the order of the text);"
                + " -1 when there is none.");
        TimeMachine x = new TimeMachine();
        Checks.assemble(x, 0, "nop\nz: 1: nop\n.data\nb: .text\n2: a: nop");
        int[] due = {4, 1024, 8};
        for (int k = -1; k <= 3; k++) {
            c.same("label(0, " + k + ")", x.label(0, k), k >= 0 && k < 3 ? due[k] : -1);
        }
        c.same("far", x.label(0, Integer.MIN_VALUE), -1);
        c.same("far", x.label(0, Integer.MAX_VALUE), -1);
        for (int p : new int[] {-1, 1, 4}) {
            c.same("label(" + p + ", 0)", x.label(p, 0), -1);
        }
        c.same("of one without any", t.fine("1: nop").label(0, 0), -1);
        manyLabels();
    }

    /** As many labels with names as fit on a tape: those of one character first. */
    private static void manyLabels() {
        String letters = "abcdefghijklmnopqrstuvwxyzABCDEFGHIJKLMNOPQRSTUVWXYZ_$.";
        String more = letters + "0123456789";
        StringBuilder text = new StringBuilder("nop\n");
        int n = 0;
        for (int i = 0; i < letters.length(); i++) {
            text.append(letters.charAt(i)).append(':');
            n++;
        }
        for (int i = 0; i < letters.length(); i++) {
            for (int j = 0; j < more.length(); j++) {
                String name = "" + letters.charAt(i) + more.charAt(j);
                boolean register = name.matches("ra|sp|gp|tp|fp|[xa][0-9]|t[0-6]|s[0-9]") && !name.equals("a8")
                        && !name.equals("a9");
                if (!register) {
                    text.append(name).append(':');
                    n++;
                }
            }
        }
        for (int i = 0; text.length() + 4 <= 32768; i++) {
            text.append("ab".charAt(i / 4225)).append(more.charAt(i / 65 % 65)).append(more.charAt(i % 65)).append(':');
            n++;
        }
        TimeMachine x = t.fine(text.toString());
        c.same("labels", x.program(0, 3), n);
        c.same("the last one", x.label(0, n - 1), 4);
        c.same("behind it", x.label(0, n), -1);
        c.same("the latest", x.before(0, 4), n - 1);
    }

    private static void before() {
        c.sentence("promise 8", "Which label (as there) of program p has the greatest address not above a, with its"
                + " sign (of several the latest in the text); -1 for none.");
        TimeMachine x = new TimeMachine();
        Checks.assemble(x, 0, "nop\n.data\nd: .byte 1\n.text\na: 1: b: nop\nc: nop");
        int[] at = {Integer.MIN_VALUE, -1, 0, 3, 4, 5, 7, 8, 11, 1023, 1024, 1025, 70000, Integer.MAX_VALUE};
        int[] due = {-1, -1, -1, -1, 2, 2, 2, 3, 3, 3, 0, 0, 0, 0};
        for (int i = 0; i < at.length; i++) {
            c.same("before(0, " + at[i] + ")", x.before(0, at[i]), due[i]);
        }
        for (int p : new int[] {-1, 1, 4}) {
            c.same("before(" + p + ", 9)", x.before(p, 9), -1);
        }
        c.same("of one without labels", t.fine("1: nop").before(0, 9), -1);
        c.same("at 0", t.fine("a: nop").before(0, 0), 0);
    }

    private static void lines() {
        c.sentence("promise 9", "The line of the statement that byte k of program p is of; 0 for none (also between"
                + " text and data).");
        TimeMachine x = new TimeMachine();
        Checks.assemble(x, 0, "\nc.nop\na: .space 0\n.data\n.byte 1\n.text\n.align 2\n.space 2\n.data\n.half 2\n");
        int[] at = {-1, 0, 1, 2, 3, 4, 5, 6, 1023, 1024, 1025, 1026, 1027, Integer.MIN_VALUE, Integer.MAX_VALUE};
        int[] due = {0, 2, 2, 7, 7, 8, 8, 0, 0, 5, 10, 10, 0, 0, 0};
        for (int i = 0; i < at.length; i++) {
            c.same("line(0, " + at[i] + ")", x.line(0, at[i]), due[i]);
        }
        for (int p : new int[] {-1, 1, 4}) {
            c.same("line(" + p + ", 0)", x.line(p, 0), 0);
        }
        c.same("of an empty one", t.fine("a:").line(0, 0), 0);
        // As many statements as fit on a tape, each of a line of its own.
        TimeMachine many = t.fine("j 0\n".repeat(700) + "c.nop\n".repeat(700));
        c.same("the last line", many.line(0, many.program(0, 2) - 1), 1400);
        TimeMachine most = t.fine("j .\n".repeat(8192));
        c.same("the last of all", most.line(0, most.program(0, 2) - 1), 8192);
        c.same("its size", most.program(0, 2), 2 * 8192);
    }
}
