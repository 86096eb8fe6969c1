/** Programs by chance that ask the assembler and the hart: all statements, many of them with faults. */
final class ModelTexts {
    private static final String[] TOKENS = {"add", "addi", "lw", "sw", "li", "la", "j", "beqz", "bnez", "call", "jal",
        "jalr", "lr.w", "sc.w.aq", "ecall", "nop", "ret", "c.lw", "c.addi", "c.mv", ".word", ".byte", ".half", ".space",
        ".align", ".equ", ".ascii", ".asciz", ".text", ".data", "a0", "a1", "s0", "sp", "zero", "x31", "x32", "foo",
        "bar", ".", "1f", "1b", "1:", "2:", "foo:", "bar:", ".:", "1", "5", "0x10", "0b11", "4096", "-1", "99999999999",
        "'a'", "'\\n'", "'#'", "\"te#t\\n\"", "\"", "'", "(", ")", "(", ")", ",", ",", ",", "+", "-", "*", "/", "%",
        "%hi(", "%lo(", "<<", ">>", "<", "&", "|", "^", "~", "\n", "\n", "\n", "\n", "#", "\t", "@", "7", "0", "fp",
        "hi", "lo", ":"};
    private static final String[] LONG = words("add sub sll slt sltu xor srl sra or and mul mulh mulhsu mulhu div divu rem remu");
    private static final String[] NUMBERED = words("addi slti sltiu xori ori andi");
    private static final String[] MEMORY = words("lb lh lw lbu lhu jalr sb sh sw");
    private static final String[] BRANCHES = words("beq bne blt bge bltu bgeu bgt ble bgtu bleu");
    private static final String[] ZERO_BRANCHES = words("beqz bnez bgez bltz blez bgtz");
    private static final String[] ATOMIC = words("sc amoswap amoadd amoxor amoand amoor amomin amomax amominu amomaxu");
    private static final String[] COUNTERS = words("rdcycle rdtime rdinstret rdcycleh rdtimeh rdinstreth");
    private static final String[] ALONE = words("fence fence.i ecall ebreak nop ret c.nop c.ebreak");
    private static final String[] TWO = words("mv not neg seqz snez sltz sgtz");
    private static final String[] TARGETS = {"foo", "bar", "baz", "1f", "1b", "2f", "2b", ".", ". + 4", ".-2", "foo + 2",
        "0", "bar - 4", "k0 * 2 + .", "3f", "4b"};
    private static final String[] LEAVES = words("foo bar baz k0 k1 . 1f 1b 2f 2b k2");
    private static final String[] SIGNS = words("* / % + - << >> & ^ |");
    private static final String[] BAD = {"'", "'a", "\"a", "\"\\x\"", "\"\\", "'\\q'", "''", "'ab'", "'a'b"};
    private static final String[] SPACES = words("0 1 3 7 100 250 254 256 2040 2048 4090 4096");

    private final Chance chance;

    ModelTexts(Chance chance) {
        this.chance = chance;
    }

    private static String[] words(String all) {
        return all.split(" ");
    }

    static String soup(Chance chance, String[] from, int most) {
        StringBuilder out = new StringBuilder();
        for (int n = chance.below(most); n > 0; n--) {
            out.append(chance.of(from)).append(chance.once(3) ? "" : " ");
        }
        return out.toString();
    }

    String tokens() {
        return soup(chance, TOKENS, 60);
    }

    // ---- operands

    private String register() {
        if (chance.once(200)) {
            return chance.of("x32", "5", "foo", ",", "");
        }
        return chance.once(3) ? "x" + chance.below(32) : chance.of(ModelFields.NAMES);
    }

    private String near() {
        return chance.of("s0", "s1", "a0", "a1", "a2", "a3", "a4", "a5", "fp", "x9");
    }

    private String target() {
        return chance.of(TARGETS);
    }

    private String number() {
        switch (chance.below(6)) {
            case 0:
                return String.valueOf(chance.below(33));
            case 1:
                return "0x" + Integer.toHexString(chance.below(5000));
            case 2:
                return "'" + (char) ('a' + chance.below(26)) + "'";
            case 3:
                return "0b" + Integer.toBinaryString(chance.below(64));
            case 4:
                return "-" + chance.below(2100);
            default:
                return String.valueOf(chance.below(9) * 4);
        }
    }

    private String expression(int deep, boolean labels) {
        if (deep == 0 || chance.once(3)) {
            String name = labels ? chance.of(LEAVES) : chance.of("k0", "k1", "7", "2");
            return chance.once(3) ? name : number();
        }
        switch (chance.below(6)) {
            case 0:
                return "(" + expression(deep - 1, labels) + ")";
            case 1:
                return chance.of("-", "~") + expression(deep - 1, labels);
            case 2:
                return chance.of("%hi(", "%lo(", "% hi (") + expression(deep - 1, labels) + ")";
            default:
                String sign = chance.of("", " ") + chance.of(SIGNS) + chance.of("", " ");
                return expression(deep - 1, labels) + sign + expression(deep - 1, labels);
        }
    }

    /** A number of a range, often an end of it, sometimes beside it. */
    private String small(int least, int most, int step) {
        if (chance.once(60)) {
            return expression(2, true);
        }
        int n = (most - least) / step;
        int v = least + step * (chance.once(4) ? chance.below(2) * n : chance.below(n + 1));
        return String.valueOf(chance.once(150) ? v + chance.of(most, 1) : v);
    }

    // ---- statements

    private String instruction() {
        String r = register();
        String s = register();
        switch (chance.below(22)) {
            case 0:
                return chance.of(LONG) + " " + r + ", " + s + "," + register();
            case 1:
                return chance.of(NUMBERED) + " " + r + ", " + s + ", " + small(-2048, 2047, 1);
            case 2:
                return chance.of("slli", "srli", "srai") + " " + r + ", " + s + ", " + small(0, 31, 1);
            case 3:
                return chance.of(MEMORY) + " " + r + ", " + small(-2048, 2047, 1) + "(" + s + ")";
            case 4:
                return chance.of("lui", "auipc") + " " + r + ", " + small(0, 1048575, 1);
            case 5:
            case 6:
                return chance.of(BRANCHES) + " " + r + ", " + s + ", " + target();
            case 7:
            case 8:
                return chance.of(ZERO_BRANCHES) + " " + (chance.once(2) ? near() : r) + ", " + target();
            case 9:
            case 10:
                return chance.of("j", "call", "tail", "jal") + " " + target();
            case 11:
                return "jal " + r + ", " + target();
            case 12:
                return chance.of(ATOMIC) + ".w" + order() + " " + r + ", " + s + ", (" + register() + ")";
            case 13:
                return "lr.w" + order() + " " + r + ", (" + s + ")";
            case 14:
                return chance.of(COUNTERS) + " " + r;
            case 15:
                return chance.of(ALONE);
            case 16:
                return chance.of(TWO) + " " + r + ", " + s;
            case 17:
                return chance.of("jr", "jalr") + " " + r;
            case 18:
                return "la " + r + ", " + (chance.once(2) ? target() : expression(2, true));
            case 19:
                return "li " + r + ", " + (chance.once(3) ? expression(2, chance.once(30)) : String.valueOf(wide()));
            default:
                return shortOne(r);
        }
    }

    private String order() {
        return chance.of("", ".aq", ".rl", ".aqrl");
    }

    private int wide() {
        return chance.any() >> chance.below(32);
    }

    private String shortOne(String r) {
        switch (chance.below(14)) {
            case 0:
                return "c.addi4spn " + near() + ", " + small(4, 1020, 4);
            case 1:
                return chance.of("c.lw", "c.sw") + " " + near() + ", " + small(0, 124, 4) + "(" + near() + ")";
            case 2:
                return chance.of("c.addi", "c.li") + " " + r + ", " + small(-32, 31, 1);
            case 3:
                return chance.of("c.j", "c.jal") + " " + target();
            case 4:
                return "c.addi16sp " + small(-512, 496, 16);
            case 5:
                return "c.lui " + r + ", " + small(-32, 31, 1);
            case 6:
                return chance.of("c.srli", "c.srai") + " " + near() + ", " + small(0, 31, 1);
            case 7:
                return "c.andi " + near() + ", " + small(-32, 31, 1);
            case 8:
                return chance.of("c.sub", "c.xor", "c.or", "c.and") + " " + near() + ", " + near();
            case 9:
                return chance.of("c.beqz", "c.bnez") + " " + near() + ", " + target();
            case 10:
                return "c.slli " + r + ", " + small(0, 31, 1);
            case 11:
                return chance.of("c.lwsp", "c.swsp") + " " + r + ", " + small(0, 252, 4);
            case 12:
                return chance.of("c.jr", "c.jalr") + " " + r;
            default:
                return chance.of("c.mv", "c.add") + " " + r + ", " + register();
        }
    }

    private String directive() {
        switch (chance.below(8)) {
            case 0:
                return ".text";
            case 1:
                return ".data";
            case 2:
                String more = chance.once(2) ? ", " + expression(2, true) : "";
                return chance.of(".byte ", ".half ", ".word ") + expression(2, true) + more;
            case 3:
                return chance.of(".ascii", ".asciz") + " \"a\\n#'\\\"\\0\"" + chance.of("", ", \"\"", ",\"x\ty\"");
            case 4:
                return ".space " + chance.of(SPACES);
            case 5:
                return ".space " + expression(1, chance.once(20));
            case 6:
                return ".align " + chance.below(chance.once(4) ? 12 : 5);
            default:
                return chance.of(".text", ".data", ".space " + chance.below(600), ".space " + chance.below(34000));
        }
    }

    /** Statements of all kinds, with labels before some. */
    String statements() {
        StringBuilder out = new StringBuilder();
        out.append(".equ k0, ").append(expression(1, false).replaceAll("k[01]", "3")).append('\n');
        out.append(".equ k1, ").append(number()).append('\n');
        int foo = chance.below(20);
        int bar = chance.below(20);
        int baz = chance.below(20);
        for (int i = 0; i < 20; i++) {
            out.append(i == foo ? "foo:" : "").append(i == bar ? " bar :" : "").append(i == baz ? "baz:\n" : "");
            out.append(chance.once(5) ? chance.of("1: ", "2:", "1:2: ", "3: ", "4:") : "");
            out.append(chance.once(4) ? directive() : instruction());
            out.append(chance.once(20) ? " # \"said\"" : "").append(chance.once(300) ? chance.of(" x", " @", "\n\u0001") : "");
            out.append('\n');
        }
        return out.append(chance.once(10) ? "" : "1: 2: 3:\n").append(chance.once(10) ? "" : ".equ k2, 9\n").toString();
    }

    private String name() {
        StringBuilder name = new StringBuilder(chance.of(words("a B _ . $ Z x s z")));
        int length = chance.once(12) ? chance.from(29, chance.once(20) ? 32 : 31) : chance.from(1, 4);
        while (name.length() < length) {
            name.append(chance.of(words("a Z 0 9 _ . $ b 1")));
        }
        return name.toString();
    }

    /** Many names, some of them alike; texts and characters of all sorts. */
    String names() {
        StringBuilder out = new StringBuilder();
        int n = chance.from(20, 220);
        for (int i = 0; i < n; i++) {
            String it = name();
            switch (chance.below(8)) {
                case 0:
                    out.append(".equ ").append(it).append(i).append(", ").append(chance.below(100));
                    break;
                case 1:
                    out.append(it).append(chance.once(30) ? ":" : "." + i + ":");
                    break;
                case 2:
                    out.append(it + "_" + i + " : " + it + ".." + i + ":.word ").append(chance.once(60) ? name() : it + "_" + i);
                    out.append(" + 0").append(chance.of("xAbF", "b101", "", "7"));
                    break;
                case 3:
                    out.append(".asciz \"").append(chance.of("\\t", "\\\\", "'", "\\'", " # ", "\t", "\\\""));
                    out.append("\",\"\" , \"~\"");
                    break;
                case 4:
                    out.append(".byte '").append(chance.of("\\t", "\\\\", "\"", "\\'", "#", "\t", " ", "\\0", "~"));
                    out.append("',\t4294967295");
                    break;
                default:
                    out.append(chance.of(".text", ".data", "nop", "", "\t#", " .align 1 "));
                    out.append(chance.once(400) ? chance.of(BAD) : "");
                    break;
            }
            out.append('\n');
        }
        return out.toString();
    }

    // ---- instructions that are carried out

    private String filled(int r) {
        int v = chance.once(3) ? wide() : chance.once(6) ? chance.from(-1, 1) : 2048 + 4 * chance.below(40);
        return "li x" + r + ", " + (v + (chance.once(12) ? chance.below(4) : 0)) + "\n";
    }

    private String allFilled() {
        StringBuilder out = new StringBuilder();
        for (int r = 1; r < 32; r++) {
            out.append(filled(r));
        }
        return out.toString();
    }

    /** All registers, then a few instructions of any bits, some of them at the end of a page. */
    String steps() {
        boolean edge = chance.once(4);
        boolean half = chance.once(12);
        StringBuilder out = new StringBuilder();
        if (chance.once(2)) {
            out.append("li a0, " + chance.of(4, 5, 7, 11) + "\nla a1, hand" + chance.of("", "", "", " + 1"));
            out.append("\nli a7, 17\necall\n");
        }
        out.append(allFilled()).append("j edge\nhand: nop\nli a7, 18\necall\n");
        out.append(edge ? ".align 10\n.space " + chance.of(1020, 1022) + "\n" : "").append("edge: ");
        if (half) {
            // The lower half of a long one, behind which the text may end.
            out.append(".half ").append(chance.below(65536) | 3).append('\n');
        }
        for (int n = half ? 0 : chance.from(1, 4); n > 0; n--) {
            out.append(bits()).append('\n');
        }
        if (!chance.once(half ? 2 : 8)) {
            // The data begins at 2048, unless the end of a page was the matter.
            out.append("rdinstret t0\nli a7, 0\necall\n").append(edge ? "" : ".align 10\n.space 4\n");
        }
        return out + ".data\n.space 100\nfoo: .word 1, -1, 0x80000000, 5\n.space 100\n";
    }

    private String bits() {
        int d = chance.below(32) << 7;
        int a = chance.below(32) << 15;
        int b = chance.below(32) << 20;
        int f = chance.below(8) << 12;
        switch (chance.below(9)) {
            case 0:
                return ".half " + (chance.below(65536) & -4 | chance.below(3));
            case 1:
                // Many bits are 0, as in those that are no instruction.
                return ".half " + (chance.below(8) << 13 | chance.below(3) | chance.any() & chance.any() & 0x1ffc);
            case 2:
                return ".word " + (19 | d | a | b | f | chance.of(0, 1, 32, 2) << 25);
            case 3:
                return ".word " + (51 | d | a | b | f | chance.of(0, 1, 1, 32, 2) << 25);
            case 4:
                int k = chance.once(3) ? chance.below(32) : chance.below(8) * 4;
                int words = chance.once(8) ? f : 2 << 12;
                return ".word " + (47 | d | a | (chance.once(4) ? 0 : b) | words | chance.below(4) << 25 | k << 27);
            case 5:
                int near = chance.below(16);
                return ".word " + (chance.once(2) ? 3 | d | a | f | near << 20 : 35 | a | b | f | near << 7);
            case 6:
                int counter = chance.of(0xc00, 0xc01, 0xc02, 0xc80, 0xc81, 0xc82, 0xc03, 0xc83, 0, 1);
                return ".word " + (115 | d | (chance.once(4) ? a : 0) | f | counter << 20);
            case 7:
                return ".word " + (chance.of(99, 103, 111, 15, 23, 55, 27, 59) | d | a | b | f | chance.below(2) << 25);
            default:
                return ".word " + (chance.any() | 3);
        }
    }

    /** All registers, then many instructions that are carried out one behind the other. */
    String straight() {
        StringBuilder out = new StringBuilder();
        boolean handled = chance.once(2);
        for (int s : new int[] {4, 5, 7, 11}) {
            out.append(handled ? "li a0, " + s + "\nla a1, hand\nli a7, 17\necall\n" : "");
        }
        out.append(allFilled());
        for (int i = 0; i < 60; i++) {
            int what = chance.below(12);
            out.append(what == 0 ? bits() : what < 4 ? filled(chance.from(1, 31)) : withoutNames()).append('\n');
        }
        return out + "j 0\nhand: li a7, 18\necall\n.align 10\n.data\nfoo: .space 300\n";
    }

    private String withoutNames() {
        String it = instruction();
        for (int i = 0; i < 20 && it.matches(".*(foo|ba[rz]|[0-9][fb]\\b|k[0-9]|x32).*"); i++) {
            it = instruction();
        }
        return it.matches(".*(foo|ba[rz]|[0-9][fb]\\b|k[0-9]|x32).*") ? "nop" : it;
    }
}
