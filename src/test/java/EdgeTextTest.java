/** The boundary cases that the document names of the texts of instructions: promise 25. */
public final class EdgeTextTest {
    private static final Checks c = new Checks();

    public static void main(String[] args) {
        addresses();
        ends();
        characters();
        processes();
        lengths();
        noneOfTheOthers();
        justTheseBits();
        names();
        registers();
        numbers();
        targets();
        alone();
        unsigned();
        c.finish();
    }

    private static void text(String lines, String due) {
        TimeMachine x = c.booted(lines);
        c.same("text of " + lines, Checks.text(x, 0, 0), due);
    }

    /** A line that is the text of its own bits. */
    private static void itself(String... lines) {
        for (String line : lines) {
            text(line, line);
        }
    }

    private static void addresses() {
        c.sentence("promise 25", "-1 when there is none (at an odd address; no page that may be carried out, or not"
                + " all of it)");
        TimeMachine x = c.booted("nop\n.space 1014\nc.nop\n.half 0\naddi zero, zero, 16\n.space 1020\n.half 3\n.data\n"
                + ".word 0x13");
        c.same("the end of the text", x.program(0, 0), 2048);
        for (int at : new int[] {1, 3, 1021, 2047}) {
            c.same("odd, " + at, x.text(0, at, 0), -1);
        }
        for (int at : new int[] {2046, 2048, 2050, 4096, 61440, 65534, 65536, -2, -4, Integer.MIN_VALUE,
            Integer.MAX_VALUE - 1, 65536 * 2}) {
            c.same("none at " + at, x.text(0, at, 0), -1);
        }
        c.same("over the end of a page", Checks.text(x, 0, 1022), "addi zero, zero, 16");
        c.same("a short one near the end of a page", Checks.text(x, 0, 1018), "c.nop");
        c.same("in the middle of another", Checks.text(x, 0, 2), ".half 0");
    }

    private static void ends() {
        c.sentence("promise 25", "or not all of it");
        TimeMachine x = c.booted(".space 1022\n.half 0x13");
        c.same("half of a long one", x.text(0, 1022, 0), -1);
        TimeMachine y = c.booted(".space 1022\n.half 1");
        c.same("a short one", Checks.text(y, 0, 1022), "c.nop");
        TimeMachine z = c.booted(".space 1022\n.half 0x13\n.half 0");
        c.same("all of a long one", Checks.text(z, 0, 1022), "addi zero, zero, 0");
        TimeMachine last = c.booted(".space 32766\n.half 0");
        c.same("the last half that there can be", Checks.text(last, 0, 32766), ".half 0");
    }

    private static void characters() {
        c.sentence("promise 25", "or it is shorter.");
        TimeMachine x = c.booted("c.nop");
        int[] at = {-1, 0, 4, 5, Integer.MIN_VALUE, Integer.MAX_VALUE};
        int[] due = {-1, 'c', 'p', -1, -1, -1};
        for (int i = 0; i < at.length; i++) {
            c.same("text(0, 0, " + at[i] + ")", x.text(0, 0, at[i]), due[i]);
        }
        TimeMachine y = c.booted("amomaxu.w.aqrl zero, s10, (s11)");
        c.same("the last of a long text", y.text(0, 0, 30), ')');
        c.same("behind it", y.text(0, 0, 31), -1);
    }

    private static void processes() {
        c.sentence("what is to be seen", "(a p that is not 0 .. 15, or any when nothing is booted, is as an ABSENT"
                + " one)");
        TimeMachine x = c.booted("li a7, 1\necall\nbeqz a0, 1f\nli a7, 21\necall\n1: li a7, 0\necall");
        for (int p : new int[] {-1, 1, 15, 16, Integer.MIN_VALUE, Integer.MAX_VALUE}) {
            c.same("process " + p, x.text(p, 0, 0), -1);
        }
        x.run(2);
        c.same("a child", Checks.text(x, 1, 0), "c.li a7, 1");
        x.run(100);
        c.same("ENDED", x.process(1, 0), 3);
        c.same("of one that has ended", x.text(1, 0, 0), -1);
        c.same("nothing booted", new TimeMachine().text(0, 0, 0), -1);
    }

    private static void lengths() {
        c.sentence("texts", "The text of bits, 32 of which the lowest two are 11, or else 16");
        text(".half 0xfffc\n.half 0xffff", ".half 65532");
        text(".half 0xfffe\n.half 0xffff", ".half 65534");
        text(".half 0x9c01\n.half 0xffff", ".half 39937");
        text(".half 0xffff\n.half 0xffff", ".word 4294967295");
    }

    private static void noneOfTheOthers() {
        c.sentence("texts", "if there is a line of the instructions above, SHORT ones included, but none of the"
                + " OTHERS, that becomes just these bits");
        String[] lines = {"nop", "mv a0, a1", "not a0, a1", "neg a0, a1", "seqz a0, a1", "snez a0, a1", "sltz a0, a1",
            "sgtz a0, a1", "jr a0", "ret", "jalr a0",
            "j . + 4096", "call . + 4096", "bgez a0, .", "bltz a0, .", "blez a0, .", "bgtz a0, .", "bgt a0, a1, .",
            "ble a0, a1, .", "bgtu a0, a1, .",
            "bleu a0, a1, .", "beqz t0, .", "li a0, 100", "j .", "jal .", "beqz a0, .", "li a0, 5"};
        String[] due = {"addi zero, zero, 0", "addi a0, a1, 0", "xori a0, a1, -1", "sub a0, zero, a1",
            "sltiu a0, a1, 1", "sltu a0, zero, a1", "slt a0, a1, zero",
            "slt a0, zero, a1", "jalr zero, 0(a0)", "jalr zero, 0(ra)", "jalr ra, 0(a0)", "jal zero, .+4096",
            "jal ra, .+4096", "bge a0, zero, .+0",
            "blt a0, zero, .+0", "bge zero, a0, .+0", "blt zero, a0, .+0", "blt a1, a0, .+0", "bge a1, a0, .+0",
            "bltu a1, a0, .+0", "bgeu a1, a0, .+0",
            "beq t0, zero, .+0", "addi a0, zero, 100", "c.j .+0", "c.jal .+0", "c.beqz a0, .+0", "c.li a0, 5"};
        for (int i = 0; i < lines.length; i++) {
            text(lines[i], due[i]);
        }
    }

    private static void justTheseBits() {
        c.sentence("texts", "that becomes just these bits");
        // The hart carries some of these out, but no line becomes them.
        String[] none = {"0x0000000f", "0x0ff0008f", "0x0000100f | 1 << 7", "0x00002073 | 3072 << 20 | 1 << 15",
            "0x00003073 | 3072 << 20", "0x00006073 | 3072 << 20",
            "0x00002073 | 3075 << 20", "47 | 2 << 12 | 2 << 27 | 1 << 20", "47 | 3 << 12", "47 | 2 << 12 | 5 << 27",
            "19 | 1 << 12 | 1 << 25", "19 | 5 << 12 | 1 << 25",
            "19 | 5 << 12 | 33 << 25", "51 | 2 << 25", "51 | 1 << 12 | 32 << 25", "103 | 1 << 12", "99 | 2 << 12",
            "99 | 3 << 12", "3 | 3 << 12", "3 | 6 << 12",
            "35 | 3 << 12", "0x00000173", "0x00200073", "0x7f", "0x1b"};
        for (String bits : none) {
            TimeMachine x = c.booted(".word " + bits);
            long word = Checks.word(x, 0, 0) & 0xffffffffL;
            c.same("text of " + bits, Checks.text(x, 0, 0), ".word " + word);
        }
        for (int half : new int[] {0, 4, 0x2000, 0x6000, 0x8000, 0xa000, 0xe000, 0x6001, 0x6101, 0x9001, 0x9401, 0x9c01,
            0x1002, 0x4002, 0x8002, 0x2002, 0x6002}) {
            text(".half " + half, ".half " + half);
        }
    }

    private static void names() {
        c.sentence("texts", "its name (with .aq, .rl, .aqrl, if these bits are 1), a blank, and the operands as they"
                + " stand there, with a comma and a blank between them");
        for (String name : new String[] {"sc.w", "amoswap.w", "amoadd.w", "amoxor.w", "amoand.w", "amoor.w", "amomin.w",
            "amomax.w", "amominu.w", "amomaxu.w"}) {
            for (String order : new String[] {"", ".aq", ".rl", ".aqrl"}) {
                itself(name + order + " t6, s11, (s10)");
            }
        }
        itself("lr.w a0, (a1)", "lr.w.aq a0, (a1)", "lr.w.rl a0, (a1)", "lr.w.aqrl zero, (t6)", "lw a0, 4(a1)",
                "sw a0, -4(a1)", "jalr a0, 0(a1)",
                "c.lw a0, 4(a1)", "c.sw a0, 4(a1)", "add a0, a1, a2", "lui a0, 5", "beq a0, a1, .+8", "rdtimeh a0");
    }

    private static void registers() {
        c.sentence("texts", "registers by their names zero ra sp gp tp t0 t1 t2 s0 s1 a0 .. a7 s2 .. s11 t3 .. t6");
        String[] names = {"zero", "ra", "sp", "gp", "tp", "t0", "t1", "t2", "s0", "s1", "a0", "a1", "a2", "a3", "a4",
            "a5", "a6", "a7", "s2", "s3", "s4", "s5",
            "s6", "s7", "s8", "s9", "s10", "s11", "t3", "t4", "t5", "t6"};
        for (int r = 0; r < 32; r++) {
            text("add x" + r + ", x" + (31 - r) + ", x" + (r ^ 16), "add " + names[r] + ", " + names[31 - r] + ", "
                    + names[r ^ 16]);
        }
        text("add fp, fp, fp", "add s0, s0, s0");
    }

    private static void numbers() {
        c.sentence("texts", "e in decimal digits, - before it if it is below 0");
        itself("addi a0, a0, -2048", "addi a0, a0, -1", "addi a0, a0, 0", "addi a0, a0, 2047", "slli a0, a0, 0",
                "slli a0, a0, 31", "srai a0, a0, 31",
                "srli a0, a0, 31", "lui a0, 0", "lui a0, 1048575", "auipc a0, 524288", "sb a0, -2048(a0)",
                "sb a0, 2047(a0)", "sb a0, -32(a0)", "sb a0, 31(a0)",
                "c.addi a0, -32", "c.addi a0, 31", "c.li a0, -1", "c.lui a0, -32", "c.lui a0, 31", "c.addi16sp -512",
                "c.addi16sp 496", "c.addi4spn a0, 4",
                "c.addi4spn a0, 1020", "c.lwsp a0, 0", "c.lwsp a0, 252", "c.swsp a0, 0", "c.swsp a0, 252",
                "c.srli a0, 31", "c.andi a0, -32", "c.slli a0, 31");
    }

    private static void targets() {
        c.sentence("texts", "and for t a ., a + (a - if the offset is below 0), and the offset's digits.");
        itself("beq a0, a1, .+0", "beq a0, a1, .-2", "beq a0, a1, .-4096", "beq a0, a1, .+4094", "jal a0, .+0",
                "jal a0, .-1048576", "jal a0, .+1048574",
                "c.j .-2048", "c.j .+2046", "c.jal .+0", "c.beqz a0, .-256", "c.bnez a0, .+254", "c.beqz a0, .+0");
    }

    private static void alone() {
        c.sentence("texts", "(c.nop for 1, not c.addi; without operands the name alone.)");
        itself("c.nop", "c.ebreak", "fence", "fence.i", "ecall", "ebreak", "c.addi zero, 1", "c.addi ra, 0",
                "c.addi zero, -32");
        text("c.addi zero, 0", "c.nop");
        text(".half 1", "c.nop");
    }

    private static void unsigned() {
        c.sentence("texts", "If there is none: .word or .half, a blank, and the bits, taken unsigned, in decimal"
                + " digits.");
        text(".half 0", ".half 0");
        text(".half 4", ".half 4");
        text(".half 65534", ".half 65534");
        text(".word 7", ".word 7");
        text(".word 0x7fffffff", ".word 2147483647");
        text(".word 0x8000007f", ".word 2147483775");
        text(".word 0xffffffff", ".word 4294967295");
        text(".word 0x80000007", ".word 2147483655");
    }
}
