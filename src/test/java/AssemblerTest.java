/** Promises 4 to 9: assembling, and what is told of a program. */
public final class AssemblerTest {
    private static final Checks c = new Checks();
    private static final Texts t = new Texts(c);

    public static void main(String[] args) {
        wrongCalls();
        replacing();
        tokens();
        expressions();
        fixedExpressions();
        nearNames();
        sections();
        directives();
        shorthands();
        lengths();
        faultsInLines();
        faultsOfRegisters();
        faultsBehindLayout();
        ranges();
        told();
        labelsBefore();
        lines();
        deepExpressions();
        c.finish();
    }

    private static void wrongCalls() {
        c.about("promise 4, wrong calls");
        TimeMachine x = new TimeMachine();
        Checks.feed(x, "nop");
        c.argument("assemble(-1)", () -> x.assemble(-1));
        c.argument("assemble(4)", () -> x.assemble(4));
        c.same("the tape stays", x.count(15), 3);
        c.same("assemble(3)", x.assemble(3), 0);
        c.same("size", x.program(3, 2), 4);
        c.same("assemble of an empty tape", x.assemble(2), 0);
        c.same("size of nothing", x.program(2, 2), 0);
    }

    private static void replacing() {
        c.about("promise 4, replacing");
        TimeMachine x = new TimeMachine();
        Checks.assemble(x, 0, "a: nop");
        c.same("a fault", Checks.assemble(x, 0, "foo"), 2 + 16);
        c.same("the program that was stays", Checks.image(x, 0), "13000000");
        x.boot(0);
        Checks.assemble(x, 0, "c.nop");
        c.same("in place of it", Checks.image(x, 0), "0100");
        c.same("a booted machine has its programs as they were", Checks.text(x, 0, 0), "addi zero, zero, 0");
        x.boot(0);
        c.same("up to the next booting", Checks.text(x, 0, 0), "c.nop");
        for (int i = 0; i < 30; i++) {
            Checks.assemble(x, i & 3, ".word " + i);
            if (i % 3 == 0) {
                x.boot(i & 3);
            }
        }
        c.same("the last one", x.image(1, 0), 29);
        c.same("one of the last ones", x.image(2, 0), 26);
        c.same("the booted one", x.peek(0, 0), 27);
    }

    private static void tokens() {
        c.about("promise 4, tokens");
        t.makes("# nothing\n\n \t # \"'\n", "");
        t.makes(".byte 1,2 , 0x1F\t,0b101 # 5", "01021f05");
        t.makes(".byte 'a', '\\n', '\\t', '\\0', '\\\\', '\\'', '\\\"', '\"', '#', ' ', '\t'", "610a09005c27222223" + "2009");
        t.makes(".byte 007, 0xaB", "07ab");
        t.fault(".byte 0XAB", 1, 1);
    }

    private static void expressions() {
        c.about("promise 4, expressions");
        t.word("4294967295", -1);
        t.word("0xffffffff", -1);
        t.word("0b11111111111111111111111111111111", -1);
        t.word("1 + 2 * 3", 7);
        t.word("(1 + 2) * 3", 9);
        t.word("10 - 3 - 2", 5);
        t.word("100 / 7 / 2", 7);
        t.word("-7 / 2", -3);
        t.word("-7 % 3", -1);
        t.word("7 % -3", 1);
        t.word("1 << 4 + 1", 32);
        t.word("1 << 33", 2);
        t.word("-8 >> 1", -4);
        t.word("1 | 6 ^ 3 & 2", 1 | (6 ^ (3 & 2)));
        t.word("12 & 10 | 1", 9);
        t.word("6 ^ 3 | 8", 13);
        t.word("1 + 1 & 3 << 1", 2);
        t.word("- - ~ -1", 0);
        t.word("~0 - -1", 0);
        t.word("-2 * -3", 6);
        t.word("%hi(0x12345fff)", 0x12346);
        t.word("%lo(0x12345fff)", -1);
        t.word("% hi ( 0xfffff800 )", 0);
        t.word("%lo(2048)", -2048);
        t.word("- %lo(5)", -5);
        t.word("7 %hi\n.equ hi, 4", 3);
        t.word("0x80000000 / -1", 0x80000000);
        t.word("0x80000000 % -1", 0);
        t.word("0x7fffffff + 1", 0x80000000);
        t.word("65536 * 65536", 0);
        t.word("later + 1\n.equ later, 9", 10);
        t.word("(((((5)))))", 5);
        t.word("'a' + 'b'", 195);
        t.word("a.b$_ + 1\n.equ a.b$_, 1", 2);
        t.makes("nop\n.word ., . + 1", "13000000" + "04000000" + "05000000");
        t.makes("nop\n.data\n.word .", "13000000" + "00".repeat(1020) + "00040000");
    }

    private static void fixedExpressions() {
        c.about("promise 4, fixed");
        t.makes(".equ n, 2 + 1\n.space n\n.byte 7", "00000007");
        t.makes(".equ n, 2\n.equ m, n * 2\n.byte m", "04");
        t.fault(".space n\n.equ n, 2", 5, 1);
        t.fault("a: .space a", 5, 1);
        t.fault(".space . ", 5, 1);
        t.fault("1: .space 1b", 5, 1);
        t.fault(".space zero", 5, 1);
        t.fault(".equ n, n", 5, 1);
        t.fault(".equ n, 1 / 0", 9, 1);
        t.fault(".equ n, 1 % (2 - 2)", 9, 1);
        t.fault(".equ n, foo / 0", 5, 1);
        t.fault(".space 1 / 0", 9, 1);
        t.fault(".space -1", 6, 1);
        t.fault(".space 32769", 6, 1);
        t.fine(".space 32768");
        t.fine(".space 0");
        t.fault(".align 11", 6, 1);
        t.fault(".align -1", 6, 1);
        t.fine(".align 10");
        t.fine("li a0, 1 << 31");
        t.fault("li a0, a", 5, 1);
        t.fault("li a0, 1 / 0", 9, 1);
        t.fault(".space foo +", 1, 1);
        t.fault(".space foo )", 5, 1);
        t.fault(".space foo @", 5, 1);
        t.fault(".space 40000 5", 6, 1);
        t.fault(".space 4 5", 1, 1);
    }

    private static void nearNames() {
        c.about("promise 4, near names");
        t.makes("1: .byte 1b, 1f\n1: .byte 1b, 1b - 1\n.byte 1f\n1:", "0002" + "0201" + "05");
        t.makes(".byte 2f\n.data\n2: .byte 2b\n.text\n2: .byte 2b", "0001" + "00".repeat(1022) + "00");
        t.makes("1: 1: .byte 1b, 1f\n.byte 0\n1:", "000300");
        t.makes("0: .byte 0b, 0b1, 0f\n0:", "000103");
        t.fault(".byte 1b", 8, 1);
        t.fault("1: .byte 1f", 8, 1);
        t.fault(".byte 1f\n2:", 8, 1);
        t.fault(".byte 12f", 1, 1);
        t.fault(".byte 1fx", 1, 1);
        t.fault("1f: nop", 1, 1);
        t.fault("10: nop", 1, 1);
        t.fault("'1': nop", 1, 1);
        t.fine("1 : nop");
    }

    private static void sections() {
        c.about("promise 4, sections");
        t.makes(".data\n.byte 1\n.text\n.byte 2\n.data\n.byte 3\n.text\n.byte 4", "0204" + "00".repeat(1022) + "0103");
        t.makes(".data\nx: .byte x >> 8, x", "0000");
        TimeMachine x = new TimeMachine();
        c.same("fault", Checks.assemble(x, 0, ".space 1024\n.data\nl: .byte 1\ne:"), 0);
        c.same("data begins", x.program(0, 1), 1024);
        c.same("label", x.label(0, 0), 1024);
        c.same("label", x.label(0, 1), 1025);
        c.same("fault", Checks.assemble(x, 0, ".space 1025\n.data\nl:"), 0);
        c.same("data begins", x.program(0, 1), 2048);
        c.same("size, with no data", x.program(0, 2), 1025);
        c.same("label of no data", x.label(0, 0), 2048);
        c.same("fault", Checks.assemble(x, 0, "t: .data\n0: d: .text\n9: nop\ne:"), 0);
        c.same("labels with names", x.program(0, 3), 3);
        c.same("label before a section", x.label(0, 0), 0);
        c.same("label before a section", x.label(0, 1), 1024);
        c.same("label", x.label(0, 2), 4);
    }

    private static void directives() {
        c.about("promise 4, directives");
        t.makes(".half 1, -2\n.word 0x01020304\n.byte 256, -1", "0100feff" + "04030201" + "00ff");
        t.makes(".ascii \"ab\", \"\"\n.asciz \"c\", \"\"", "61626300" + "00");
        t.makes(".ascii \"\\\"\\'\\n\\\\'#\" # x", "22270a5c2723");
        t.makes(".byte 1\na: .align 2\n.byte a\n.align 1\n.byte 3", "01000000" + "01" + "00" + "03");
        t.makes(".align 3", "");
        t.makes(".byte 1\n.align 0\n.byte 2", "0102");
        t.makes("c.nop\n.align 10\n.byte 1", "0100" + "00".repeat(1022) + "01");
        t.makes(".space 3\n.byte 1", "00000001");
        t.fault(".byte", 1, 1);
        t.fault(".byte 1,", 1, 1);
        t.fault(".byte 1 2", 1, 1);
        t.fault(".ascii", 1, 1);
        t.fault(".ascii \"a", 1, 1);
        t.fault(".ascii \"a\\q\"", 1, 1);
        t.fault(".ascii \"a\" \"b\"", 1, 1);
        t.fault(".ascii 'a'", 1, 1);
        t.fault(".byte \"a\"", 1, 1);
        t.fault(".text 1", 1, 1);
        t.fault(".equ", 1, 1);
        t.fault(".equ a", 1, 1);
        t.fault(".equ a 5", 1, 1);
        t.fault(".equ a, ", 1, 1);
        t.fault(".equ 5, 5", 1, 1);
        t.fault(".equ a, 5, 6", 1, 1);
        t.fault(".org 5", 2, 1);
        t.fine(".equ ., 5");
        t.fine(".: nop");
        t.fine(".text: .data: nop\n.word .text, .data");
        t.fault(".: nop\n.: nop", 4, 2);
        t.fine("add: add a0, a0, a0\nj add");
    }

    private static void shorthands() {
        c.about("promise 4, others");
        t.makes("nop\nret", "13000000" + "67800000");
        t.makes("mv a0, a1", "13850500");
        t.makes("not a0, a1", "13c5f5ff");
        t.makes("neg a0, a1", "3305b040");
        t.makes("seqz a0, a1", "13b51500");
        t.makes("snez a0, a1", "3335b000");
        t.makes("sltz a0, a1", "33a50500");
        t.makes("sgtz a0, a1", "3325b000");
        t.makes("jr a1", "67800500");
        t.makes("jalr a1", "e7800500");
        t.makes("jalr a0, 4(a1)", "67854500");
        t.makes("li a0, -32\nli a0, 31", "0155" + "7d45");
        t.makes("li a0, 32\nli zero, 1", "13050002" + "13001000");
        t.makes("li a0, -2048", "13050080");
        t.makes("li a0, 2048", "37150000" + "13050580");
        t.makes("li a0, 4096", "37150000");
        t.makes("li a0, 0xfffff000", "37f5ffff");
        t.makes("li a0, 0xffffffff", "7d55");
        t.makes("li a0, 0x12345fff", "37653412" + "1305f5ff");
        t.makes("nop\nla a0, .", "13000000" + "17050000" + "13050500");
        t.makes("la a0, 0x12345800", "17653412" + "13050580");
        t.makes("nop\nla s0, a\n.data\na: .byte 1", "13000000" + "17040000" + "1304c43f" + "00".repeat(1012) + "01");
        t.makes("jal ra, .", "ef000000");
        t.makes("jal .\ncall .", "0120" + "0120");
        t.makes("j .\ntail .", "01a0" + "01a0");
        t.makes("bgt a0, a1, .", "63c0a500");
        t.makes("ble a0, a1, .", "63d0a500");
        t.makes("bgtu a0, a1, .", "63e0a500");
        t.makes("bleu a0, a1, .", "63f0a500");
        t.makes("blez a0, .\nbgtz a0, .", "6350a000" + "6340a000");
        t.makes("bgez a0, .\nbltz a0, .", "63500500" + "63400500");
        t.makes("beqz a0, .\nbnez a0, .", "01c1" + "01e1");
        t.makes("beqz t0, .\nbnez t0, .", "63800200" + "63900200");
        t.makes("amoadd.w.aqrl a0, a1, (a2)", "2f25b606");
        t.makes("lr.w.aq a0, (a1)\nsc.w.rl a0, a1, (a2)", "2fa50514" + "2f25b61a");
        t.makes("fence\nfence.i\necall\nebreak", "0f00f00f" + "0f100000" + "73000000" + "73001000");
        t.makes("rdcycle a0\nrdtimeh a1", "732500c0" + "f32510c8");
        t.fault("jal ra", 1, 1);
        t.fault("j ra", 8, 1);
        t.fault("jal foo, bar", 1, 1);
        t.fault("jalr 4(a0)", 3, 1);
        t.fault("jalr a0, a1", 1, 1);
        t.fault("add.aq a0, a0, a0", 2, 1);
        t.fault("lr.w.aq.rl a0, (a0)", 2, 1);
        t.fault("Add a0, a0, a0", 2, 1);
    }

    private static String zeros(int n) {
        return ".space " + n + "\n";
    }

    private static void lengths() {
        c.about("promise 4, lengths");
        c.same("j, near", t.size("j a\n" + zeros(2044) + "a:"), 2046);
        c.same("j, far", t.size("j a\n" + zeros(2046) + "a:"), 2050);
        c.same("j back, near", t.size("a: " + zeros(2048) + "j a"), 2050);
        c.same("j back, far", t.size("a: " + zeros(2050) + "j a"), 2054);
        c.same("jal with one operand", t.size("jal a\n" + zeros(2046) + "a:"), 2050);
        c.same("jal with two", t.size("jal ra, a\na:"), 4);
        c.same("beqz, near", t.size("beqz a0, a\n" + zeros(252) + "a:"), 254);
        c.same("beqz, far", t.size("beqz a0, a\n" + zeros(254) + "a:"), 258);
        c.same("beqz, another register", t.size("beqz t0, a\na:"), 4);
        c.same("beqz, too far", t.size("beqz a0, a\n" + zeros(4092) + "a:"), 4100);
        c.same("beq, near", t.size("beq a0, a1, a\n" + zeros(4090) + "a:"), 4094);
        c.same("beq, far", t.size("beq a0, a1, a\n" + zeros(4092) + "a:"), 4100);
        c.same("bgt, far", t.size("bgt a0, a1, a\n" + zeros(5000) + "a:"), 5008);
        c.same("one that pushes another", t.size("j b\nj a\n" + zeros(2042) + "b:" + zeros(4) + "a:"), 2054);
        c.same(".align takes what others grow", t.size("j a\n.align 4\n" + zeros(2040) + "a:"), 2056);
        TimeMachine x = new TimeMachine();
        Checks.assemble(x, 0, "blt a0, a1, a\n" + zeros(5000) + "a:");
        x.boot(0);
        c.same("the opposite branch", Checks.text(x, 0, 0), "bge a0, a1, .+8");
        c.same("and a jump", Checks.text(x, 0, 4), "jal zero, .+5004");
        Checks.assemble(x, 0, "a: " + zeros(5000) + "bnez s0, a");
        x.boot(0);
        c.same("the opposite branch", Checks.text(x, 0, 5000), "beq s0, zero, .+8");
        c.same("and a jump", Checks.text(x, 0, 5004), "jal zero, .-5004");
        Checks.assemble(x, 0, "bnez s0, a\n" + zeros(1000) + "a:");
        x.boot(0);
        c.same("four bytes", Checks.text(x, 0, 0), "bne s0, zero, .+1004");
        t.fault("j .+1", 10, 1);
        t.fault("beqz a0, .+3", 10, 1);
        t.fault("beqz a0, .+2000000", 10, 1);
        t.fault("j foo", 8, 1);
        t.fault("j 1 / 0", 9, 1);
        c.same("data moves", t.size("j d\n" + zeros(1020) + "d2:\n.data\n" + zeros(1024) + "d:"), 1024);
    }

    private static void faultsInLines() {
        c.about("promise 4, faults 1, 2 and 4");
        t.fault("nop\nnop\u0007", 1, 2);
        t.fault("foo\nnop \u00ff", 1, 2);
        t.fault("foo\r", 1, 1);
        t.fault("\u007f", 1, 1);
        t.fault("nop nop", 1, 1);
        t.fault("5", 1, 1);
        t.fault("5 nop", 1, 1);
        t.fault("0 nop", 1, 1);
        t.fault(": nop", 1, 1);
        t.fault("a b: nop", 2, 1);
        t.fault("foo", 2, 1);
        t.fault("foo @", 2, 1);
        t.fault("a: foo", 2, 1);
        t.fault("@", 1, 1);
        t.fault("a0 5", 2, 1);
        t.fault("nop\n\n foo bar", 2, 3);
        t.fault("a:\na:", 4, 2);
        t.fault("a: a:", 4, 1);
        t.fault(".equ a, 1\na:", 4, 2);
        t.fault("a:\n.equ a, 1", 4, 2);
        t.fault(".equ a, 1\n.equ a, 1", 4, 2);
        t.fault("x5:", 4, 1);
        t.fault("zero: nop", 4, 1);
        t.fault(".equ fp, 1", 4, 1);
        t.fault(".equ t6 @", 4, 1);
        t.fine("x32: x05: x: fq: nop");
        t.fault(".byte 4294967296", 1, 1);
        t.fault(".byte 0x100000000", 1, 1);
        t.fault(".byte 0x", 1, 1);
        t.fault(".byte 0b2", 1, 1);
        t.fault(".byte 12a", 1, 1);
        t.fault(".byte 'ab'", 1, 1);
        t.fault(".byte ''", 1, 1);
        t.fault(".byte '''", 1, 1);
        t.fault(".byte '\\x'", 1, 1);
        t.fault(".byte 'a'b", 1, 1);
        t.fault(".byte 'a", 1, 1);
        t.fault(".byte 1 < 2", 1, 1);
        t.fault(".byte 1 < < 2", 1, 1);
        t.fault(".byte (1", 1, 1);
        t.fault(".byte 1)", 1, 1);
        t.fault(".byte 1 +", 1, 1);
        t.fault(".byte + 1", 1, 1);
        t.fault(".byte %foo(1)", 1, 1);
        t.fault(".byte %hi 1", 1, 1);
        t.fault(".byte %hi(1", 1, 1);
        t.fault(".byte ()", 1, 1);
        String longest = "n123456789012345678901234567890";
        t.fine(longest + ": .word " + longest);
        t.fault(longest + "1: nop", 1, 1);
        t.fault(".word " + longest + "1", 1, 1);
    }

    private static void faultsOfRegisters() {
        c.about("promise 4, registers");
        t.fault("add a0, a1", 1, 1);
        t.fault("add a0, a1,", 1, 1);
        t.fault("add", 1, 1);
        t.fault("add a0 a1 a2", 1, 1);
        t.fault("add foo, a1, a2", 3, 1);
        t.fault("add 5, a1, a2", 3, 1);
        t.fault("add a0, a1, 5", 3, 1);
        t.fault("add a0, , a1", 3, 1);
        t.fault("add a0, @, a1", 1, 1);
        t.fault("add x32, a1, a2", 3, 1);
        t.fault("add x01, a1, a2", 3, 1);
        t.fault("add a8, a1, a2", 3, 1);
        t.fault("lw a0, 4(5)", 3, 1);
        t.fault("lw a0, 4", 1, 1);
        t.fault("lw a0, (a1)", 1, 1);
        t.fault("lw a0, 4(a1", 1, 1);
        t.fault("lr.w a0, 0(a1)", 1, 1);
        t.fault("c.lw t0, 0(a0)", 3, 1);
        t.fault("c.lw a0, 0(t0)", 3, 1);
        t.fault("c.sub a0, s2", 3, 1);
        t.fault("c.lui sp, 1", 3, 1);
        t.fault("c.lwsp zero, 4", 3, 1);
        t.fault("c.jr zero", 3, 1);
        t.fault("c.jalr x0", 3, 1);
        t.fault("c.mv a0, zero", 3, 1);
        t.fault("c.add a0, zero", 3, 1);
        t.fine("c.mv zero, a0\nc.add zero, a0\nc.addi zero, 1\nc.li zero, 1\nc.lui zero, 1\nc.slli zero, 1");
        t.fault("c.swsp 5, 4", 3, 1);
        t.fine("c.swsp zero, 4");
        t.fine("add x0, x31, fp");
    }

    private static void faultsBehindLayout() {
        c.about("promise 4, faults 7 to 10");
        t.fine(".space 32768");
        t.fault(".space 32768\n.byte 1", 7, 0);
        t.fault(".byte foo\n.space 32768", 7, 0);
        t.fine(".space 31744\n.data\n.space 1024");
        t.fault(".space 31745\n.data\n.space 1024", 7, 0);
        t.fault(".data\n.space 20000\n.text\n.space 20000", 7, 0);
        t.fault("nop\n.word 1, foo", 8, 2);
        t.fault(".word a0", 8, 1);
        t.fault(".word 1 / 0", 9, 1);
        t.fault(".word foo / 0", 8, 1);
        t.fault(".word 1 / 0, foo", 9, 1);
        t.fault(".word 5 % (a - a)\na:", 9, 1);
        t.fault("addi a0, a0, 2048\n.word foo", 10, 1);
        t.fault(".word foo\naddi a0, a0, 2048", 8, 1);
        t.fault("foo: nop\nfoo2: nop\n.word foo3\nbar", 2, 4);
    }

    private static void ranges() {
        c.about("promise 4, fault 10");
        String[] good = {"addi a0, a0, -2048", "addi a0, a0, 2047", "slli a0, a0, 31", "slli a0, a0, 0", "lw a0, -2048(a0)",
            "sw a0, 2047(a0)", "lui a0, 1048575", "lui a0, 0", "beq a0, a0, .-4096", "beq a0, a0, .+4094",
            "c.addi4spn a0, 4", "c.addi4spn a0, 1020", "c.lw a0, 124(a0)", "c.sw a0, 0(a0)", "c.addi a0, -32",
            "c.addi a0, 31", "c.addi a0, 0", "c.j .-2048", "c.j .+2046", "c.addi16sp -512", "c.addi16sp 496",
            "c.lui a0, -32", "c.lui a0, 31", "c.srli a0, 0", "c.srli a0, 31", "c.andi a0, -32", "c.beqz a0, .-256",
            "c.bnez a0, .+254", "c.slli a0, 31", "c.lwsp a0, 252", "c.swsp a0, 252", "jal ra, .-1048576",
            "jal ra, .+1048574"};
        String[] bad = {"addi a0, a0, -2049", "addi a0, a0, 2048", "slli a0, a0, 32", "slli a0, a0, -1", "lw a0, -2049(a0)",
            "sw a0, 2048(a0)", "lui a0, 1048576", "lui a0, -1", "auipc a0, 1048576", "c.addi4spn a0, 0",
            "c.addi4spn a0, 6", "c.addi4spn a0, 1024", "c.lw a0, 128(a0)", "c.lw a0, 2(a0)", "c.sw a0, -4(a0)",
            "c.addi a0, -33", "c.addi a0, 32", "c.j .-2050", "c.j .+2048", "c.j .+1", "c.addi16sp 0", "c.addi16sp 8",
            "c.addi16sp 512", "c.addi16sp -528", "c.lui a0, 0", "c.lui a0, 32", "c.srli a0, 32", "c.andi a0, 32",
            "c.beqz a0, .-258", "c.bnez a0, .+256", "c.beqz a0, .+1", "c.slli a0, 32", "c.lwsp a0, 256", "c.lwsp a0, 2",
            "c.swsp a0, -4", "jal ra, .-1048578", "jal ra, .+1048576", "jal ra, .+1"};
        for (String line : good) {
            t.fine(line);
        }
        for (String line : bad) {
            t.fault("nop\n" + line, 10, 2);
        }
    }

    private static void told() {
        c.about("promises 5 to 7");
        TimeMachine x = new TimeMachine();
        String text = "a: nop\n1: b: .equ k, 5\n.equ m, 6\nc: ret\n.data\nd: .byte 1, 200\n";
        c.same("fault", Checks.assemble(x, 1, text), 0);
        int[] due = {8, 1024, 1026, 4, 2, -1};
        for (int what = 0; what < due.length; what++) {
            c.same("program(1, " + what + ")", x.program(1, what), due[what]);
        }
        c.same("program(1, -1)", x.program(1, -1), -1);
        c.same("program(0, 0)", x.program(0, 0), -1);
        c.same("program(4, 0)", x.program(4, 0), -1);
        c.same("program(-1, 0)", x.program(-1, 0), -1);
        c.same("image(1, 0)", x.image(1, 0), 0x13);
        c.same("image(1, 1023)", x.image(1, 1023), 0);
        c.same("image(1, 1025)", x.image(1, 1025), 200);
        c.same("image(1, 1026)", x.image(1, 1026), -1);
        c.same("image(1, -1)", x.image(1, -1), -1);
        c.same("image(0, 0)", x.image(0, 0), -1);
        c.same("image(9, 0)", x.image(9, 0), -1);
        int[] places = {0, 4, 4, 1024};
        for (int k = 0; k < places.length; k++) {
            c.same("label(1, " + k + ")", x.label(1, k), places[k]);
        }
        c.same("label(1, 4)", x.label(1, 4), -1);
        c.same("label(1, -1)", x.label(1, -1), -1);
        c.same("label(2, 0)", x.label(2, 0), -1);
    }

    private static void labelsBefore() {
        c.about("promise 8");
        TimeMachine x = new TimeMachine();
        Checks.assemble(x, 0, "nop\na: b: nop\n.data\nc: .byte 1\n.text\nd: nop\ne:");
        c.same("before(0, 3)", x.before(0, 3), -1);
        c.same("before(0, 4)", x.before(0, 4), 1);
        c.same("before(0, 7)", x.before(0, 7), 1);
        c.same("before(0, 8)", x.before(0, 8), 3);
        c.same("before(0, 12)", x.before(0, 12), 4);
        c.same("before(0, 1023)", x.before(0, 1023), 4);
        c.same("before(0, 1024)", x.before(0, 1024), 2);
        c.same("before(0, greatest)", x.before(0, Integer.MAX_VALUE), 2);
        c.same("before(0, -1)", x.before(0, -1), -1);
        c.same("before(1, 5)", x.before(1, 5), -1);
        c.same("before(-1, 5)", x.before(-1, 5), -1);
    }

    private static void lines() {
        c.about("promise 9");
        TimeMachine x = new TimeMachine();
        Checks.assemble(x, 0, "nop\n\n.data\n.byte 1, 2\n.text\na: c.nop # x\n.align 3\n.asciz \"ab\"\n.data\n.space 2");
        int[] due = {1, 1, 1, 1, 6, 6, 7, 7, 8, 8, 8, 0};
        for (int k = 0; k < due.length; k++) {
            c.same("line(0, " + k + ")", x.line(0, k), due[k]);
        }
        c.same("line(0, 1023)", x.line(0, 1023), 0);
        c.same("line(0, 1024)", x.line(0, 1024), 4);
        c.same("line(0, 1025)", x.line(0, 1025), 4);
        c.same("line(0, 1027)", x.line(0, 1027), 10);
        c.same("line(0, 1028)", x.line(0, 1028), 0);
        c.same("line(0, -1)", x.line(0, -1), 0);
        c.same("line(1, 0)", x.line(1, 0), 0);
        c.same("line(5, 0)", x.line(5, 0), 0);
    }

    /** There is no bound to how deep an expression may be. */
    private static void deepExpressions() {
        c.about("promise 4, deep expressions");
        t.word("(".repeat(4000) + "7" + ")".repeat(4000), 7);
        t.word("-".repeat(9001) + "7", -7);
        t.word("1+(".repeat(3000) + "1" + ")".repeat(3000), 3001);
        t.fault(".word " + "(".repeat(9000), 1, 1);
        StringBuilder many = new StringBuilder();
        for (int i = 0; i < 2500; i++) {
            many.append("n").append(i).append(": ");
        }
        t.fine(many.toString());
        manyNames();
    }

    private static void manyNames() {
        StringBuilder many = new StringBuilder();
        for (int i = 0; i < 1200; i++) {
            many.append("n").append(i).append(": .half n").append(1199 - i).append('\n');
        }
        TimeMachine x = new TimeMachine();
        c.same("fault", Checks.assemble(x, 0, many.toString()), 0);
        for (int i = 0; i < 1200; i++) {
            c.same("a name's address", x.image(0, 2 * i) | x.image(0, 2 * i + 1) << 8, 2 * (1199 - i));
            c.same("its label", x.label(0, i), 2 * i);
        }
        t.fault(many + "n77:", 4, 1201);
    }
}
