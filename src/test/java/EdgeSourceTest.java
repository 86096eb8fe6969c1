/** The boundary cases that the document names of a program's text: characters, lines, tokens and expressions. */
public final class EdgeSourceTest {
    private static final Checks c = new Checks();
    private static final Texts t = new Texts(c);
    private static final String[] REGISTERS = {"zero", "ra", "sp", "gp", "tp", "t0", "t1", "t2", "s0", "s1", "a0", "a1",
        "a2",
        "a3", "a4", "a5", "a6", "a7", "s2", "s3", "s4", "s5", "s6", "s7", "s8", "s9", "s10", "s11", "t3", "t4", "t5",
        "t6"};

    public static void main(String[] args) {
        characters();
        firstFault();
        lines();
        blanks();
        comments();
        nameLengths();
        nameCharacters();
        numberBounds();
        numberBases();
        behindNumbers();
        nearNames();
        texts();
        quotedCharacters();
        escapes();
        signs();
        labels();
        pointLabels();
        registerNames();
        registersAlone();
        primaries();
        nearBehind();
        nearBefore();
        signsBefore();
        halves();
        ranks();
        sameRank();
        allPairs();
        wrapAround();
        quotients();
        shifts();
        highHalf();
        lowHalf();
        fixed();
        registersInExpressions();
        c.finish();
    }

    private static void characters() {
        c.sentence("a program's text", "A PROGRAM'S TEXT has characters 9, 10 and 32 .. 126");
        for (int it = 0; it < 256; it++) {
            boolean good = it == 9 || it == 10 || it >= 32 && it <= 126;
            TimeMachine x = new TimeMachine();
            c.same("character " + it, Checks.assemble(x, 0, "# " + (char) it), good ? 0 : 1 + 16);
        }
    }

    private static void firstFault() {
        c.sentence("a program's text", "A byte of the tape that is none of these is fault 1 in its line, before all"
                + " others.");
        t.fault("foo\nnop\n# \u0080", 1, 3);
        t.fault("foo\n\n\u0000\n\u0001", 1, 3);
        t.fault(".ascii \"\u007f\"", 1, 1);
        t.fault("foo '\r'", 1, 1);
        t.fault(".space 32768\n.space 32768\n\u00ff", 1, 3);
    }

    private static void lines() {
        c.sentence("a program's text", "10 ends a LINE (numbered from 1)");
        t.fault("foo", 2, 1);
        t.fault("\nfoo", 2, 2);
        t.fault("\n\n\nfoo\nfoo", 2, 4);
        t.fault("nop\n".repeat(300) + "foo", 2, 301);
        t.fault("add a0,\na1, a2", 1, 1);
        t.fault(".ascii \"a\nb\"", 1, 1);
        t.fault(".byte 1 +\n1", 1, 1);
        t.allFine("", "\n", "nop\n", "nop\n\n", "\nnop");
    }

    private static void blanks() {
        c.sentence("a program's text", "9 and 32 are BLANKS: they stand between tokens or not, and end what is in"
                + " front of them");
        t.makes(" \t a :\t.byte\t 1 ,(\t2+3 )\t", "0105");
        t.makes("a:.byte 1,(2+3)", "0105");
        t.makes(".byte-1", "ff");
        t.makes("a :nop", "13000000");
        t.makes("lw a0,4(a1)", "03a54500");
        t.makes("lw a0 , 4 ( a1 )", "03a54500");
        t.faults(1, ".byte 1 2", ".byte 0 x10", ".byte 1\t2", ".byte 1 << < 2", ".byte 1 > > 2", "1: .byte 1 b");
        t.faults(2, "n op", ". byte 1", "c .nop");
        t.makes(".byte 1 , 2 # ' '", "0102");
        t.makes(".ascii \" \t \"", "200920");
    }

    private static void comments() {
        c.sentence("a program's text", "From a # on (but in quotes) a line says nothing.");
        t.makes("#", "");
        t.makes("nop#foo", "13000000");
        t.makes("# \" ' @ foo:\nnop", "13000000");
        t.makes(".byte '#', 2 # , 3", "2302");
        t.makes(".ascii \"a#b\" # \"", "612362");
        t.faults(1, "add a0, # a1, a2", ".byte 1, # 2", ".byte # 1");
        t.fault("foo # bar", 2, 1);
    }

    private static void nameLengths() {
        c.sentence("a program's text", "a NAME: 1 to 31 letters, digits, _ . and $, the first one no digit");
        String longest = "abcdefghijklmnopqrstuvwxyz12345";
        c.same("characters", longest.length(), 31);
        t.makes("nop\na: .byte a", "13000000" + "04");
        t.makes("nop\n" + longest + ": .byte " + longest, "13000000" + "04");
        t.makes(".equ " + longest + ", 7\n.byte " + longest, "07");
        t.faults(1, longest + "6:", ".byte " + longest + "6", ".equ " + longest + "6, 1", longest + "6");
        t.fault(longest, 2, 1);
        // Names that are alike in all but the last character are two.
        t.makes("nop\n" + longest + ": nop\n" + longest.substring(0, 30) + "6: .byte " + longest, "13000000"
                + "13000000" + "04");
    }

    private static void nameCharacters() {
        c.sentence("a program's text", "a NAME: 1 to 31 letters, digits, _ . and $");
        for (char it = 33; it < 127; it++) {
            boolean letter = it >= 'a' && it <= 'z' || it >= 'A' && it <= 'Z' || it == '_' || it == '.' || it == '$';
            boolean digit = it >= '0' && it <= '9';
            boolean comment = it == '#';
            TimeMachine x = new TimeMachine();
            int first = Checks.assemble(x, 0, it + "q: nop");
            c.same("first " + it, first, letter || comment ? 0 : 1 + 16);
            int second = Checks.assemble(x, 0, "q" + it + ": nop");
            // A second : ends no label, and behind another sign the name is one of a statement.
            int due = letter || digit ? 0 : it == ':' ? 1 + 16 : 2 + 16;
            c.same("second " + it, second, due);
        }
        t.makes(".equ A, 1\n.equ a, 2\n.byte A, a", "0102");
        t.makes(".equ _, 1\n.equ $, 2\n.equ Z9z, 3\n.byte _, $, Z9z", "010203");
    }

    private static void numberBounds() {
        c.sentence("a program's text", "or 0b and digits 0 and 1, below 2 to the 32, or a QUOTED character");
        t.word("0", 0);
        t.word("4294967295", -1);
        t.word("2147483648", Integer.MIN_VALUE);
        t.word("0xffffffff", -1);
        t.word("0xFFFFFFFF", -1);
        t.word("0x0000000000ffffffff", -1);
        t.word("0b" + "1".repeat(32), -1);
        t.word("0b" + "0".repeat(40) + "1", 1);
        t.word("00004294967295", -1);
        t.faults(1, ".word 4294967296", ".word 0x100000000", ".word 0b1" + "0".repeat(32), ".word 99999999999999999999",
                ".word 18446744073709551616", ".word 0x10000000000000000", ".word 4294967296 - 1");
    }

    private static void numberBases() {
        c.sentence("a program's text", "a NUMBER: digits, or 0x and digits 0 .. 9 a .. f A .. F");
        t.word("0x0123456", 0x123456);
        t.word("0x789abcde", 0x789abcde);
        t.word("0xfABCDEF", 0xfabcdef);
        t.word("0xF", 15);
        t.word("0b10", 2);
        t.word("010", 10);
        t.word("09", 9);
        t.faults(1, ".word 0x", ".word 0xg", ".word 0xG", ".word 0x/", ".word 0X1", ".word 0B1", ".word 0b2",
                ".word 0b12",
                ".word 0b02", ".word 1a", ".word 1x1", ".word 00x1", ".word 1b1", ".word 0o7", ".word 1e3");
    }

    private static void behindNumbers() {
        c.sentence("a program's text", "behind it no character of a name");
        for (String number : new String[] {"12", "0x1", "0b1", "'a'"}) {
            for (String more : new String[] {"_", ".", "$", "z", "Z"}) {
                t.faults(1, ".byte " + number + more, ".byte 1, " + number + more + "+1");
                // It is no token, so the e does not end before it: the fault is not that the e isn't fixed.
                t.faults(1, ".space foo + " + number + more, "li a0, foo + " + number + more);
            }
            t.faults(5, ".space foo + " + number + " z", "li a0, foo + " + number + " z");
            t.fine(".byte " + number + "+1");
        }
        t.faults(1, ".byte 'a'1", ".byte 'a'a");
        t.makes(".byte 'a'+1", "62");
    }

    private static void nearNames() {
        c.sentence("a program's text", "a NEAR name: one digit, then f or b, likewise");
        for (int digit = 0; digit <= 9; digit++) {
            t.makes("nop\n" + digit + ": .byte " + digit + "b, " + digit + "f\n" + digit + ":", "13000000" + "0406");
        }
        t.faults(1, "1: .byte 1ff\n1:", "1: .byte 1fb", "1: .byte 1b0", "1: .byte 1b.", "1: .byte 1f$", "1: .byte 1f_",
                "1: .byte 01b", "1: .byte 11b", "1: .byte 1B", "1: .byte 1F", "1: .byte 1c");
        // 0b is the near name; with a digit behind it, it is a number.
        t.makes(".byte 9\n0: .byte 0b, 0b0, 0b1", "09" + "010001");
    }

    private static void texts() {
        c.sentence("a program's text", "a TEXT: in \" \", any characters");
        t.makes(".ascii \"\"", "");
        t.makes(".asciz \"\"", "00");
        t.makes(".ascii \"'\"", "27");
        StringBuilder all = new StringBuilder("\t");
        StringBuilder due = new StringBuilder("09");
        for (char it = 32; it < 127; it++) {
            if (it != '"' && it != '\\') {
                all.append(it);
                due.append(String.format("%02x", (int) it));
            }
        }
        t.makes(".ascii \"" + all + "\"", due.toString());
        t.faults(1, ".ascii \"", ".ascii \"a", ".ascii \"a\\\"", ".ascii a\"", ".ascii \"a\"b\"", ".ascii 'a'", "\"a\"",
                ".word \"a\"", ".ascii 5", ".ascii", ".ascii \"a\",", ".ascii \"a\" \"b\"");
        String longest = "x".repeat(20000);
        c.same("a long text", t.size(".ascii \"" + longest + "\""), 20000);
    }

    private static void quotedCharacters() {
        c.sentence("quoted", "What stands for a character is itself (9, 32 .. 126, but no \\, in ' ' no ', in \" \""
                + " no \")");
        for (int it = 9; it < 127; it = it == 9 ? 32 : it + 1) {
            String line = ".byte '" + (char) it + "'";
            if (it == '\\' || it == '\'') {
                t.fault(line, 1, 1);
            } else {
                t.makes(line, String.format("%02x", it));
            }
        }
        t.faults(1, ".byte ''", ".byte '", ".byte 'a", ".byte 'ab'", ".byte '''", ".byte 'a''", ".ascii \"\\\"",
                ".ascii \"\"\"");
    }

    private static void escapes() {
        c.sentence("quoted", "or \\ and one of n (10) t (9) 0 (0) \\ ' \"");
        String good = "nt0\\'\"";
        int[] due = {10, 9, 0, '\\', '\'', '"'};
        for (char it = 32; it < 127; it++) {
            int k = good.indexOf(it);
            String quoted = ".byte '\\" + it + "'";
            String text = ".ascii \"\\" + it + "\"";
            if (k < 0) {
                t.faults(1, quoted, text);
            } else {
                t.makes(quoted, String.format("%02x", due[k]));
                t.makes(text, String.format("%02x", due[k]));
            }
        }
        t.faults(1, ".byte '\\", ".byte '\\n", ".byte '\\nn'", ".byte '\\x41'", ".ascii \"\\");
        t.makes(".ascii \"\\0001\"", "00303031");
    }

    private static void signs() {
        c.sentence("quoted", "and each of : , ( ) + - * / % & | ^ ~ << >>");
        t.makes("a: .byte (1+2-3)*4/5%6&7|8^9, ~0, 1<<2, 8>>1", "01" + "ff" + "04" + "04");
        for (char it = 33; it < 127; it++) {
            if ("!;<=>?@[\\]`{}".indexOf(it) >= 0) {
                t.faults(1, it + "", "nop " + it, ".byte 1 " + it + " 1", ".byte " + it, "a: " + it, "add a0, a1, "
                        + it);
            }
        }
        t.faults(1, ".byte 1 <> 1", ".byte 1 <<< 1", ".byte 1 >>> 1", ".byte 1 ** 1", ".byte 1 && 1", ".byte 1 || 1");
        t.makes(".byte 1 << - 31, 6 - - 1", "02" + "07");
    }

    private static void labels() {
        c.sentence("quoted", "A line has LABELS, none or some: a name");
        t.makes("a: b: 1: c:2: .byte a, b, c, 1b, 2b", "0000000000");
        t.allFine("a:", "1:", "a: b:", "1: 1: 1:", "9: 0:", "a :");
        t.faults(1, ":", "a::", "a: :", "10: nop", "1f: nop", "'a': nop", "\"a\": nop", ", b: nop", "0x1: nop",
                "1", "1 nop", "a: 1 nop");
        t.faults(2, "a b: nop", "a: b nop");
        // Of labels with names, and digits, each line may have many.
        StringBuilder many = new StringBuilder();
        for (int i = 0; i < 8000; i++) {
            many.append("7:");
        }
        TimeMachine x = t.fine(many + "a: .byte 7b");
        c.same("labels with names", x.program(0, 3), 1);
        c.sentence("quoted", "or a digit, and : behind it; then nothing or a STATEMENT: a name, and its OPERANDS,"
                + " with , between them.");
        for (int digit = 0; digit <= 9; digit++) {
            t.makes("nop\n" + digit + ": .byte " + digit + "b", "13000000" + "04");
        }
        t.allFine("1:", "1: ", "1: nop", "add a0, a1, a2", "add a0,a1,a2", "nop", ".byte 1, 2");
        t.faults(1, "1 : : nop", "add a0 a1, a2", "add a0, a1 a2", "nop,",
                ".byte 1,, 2", ".byte ,1", ".equ a 1", "lw a0 4(a1)", "00: nop", "01: nop");
    }

    private static void pointLabels() {
        c.sentence("quoted", "(also . alone, which no e can mean, or a directive's)");
        t.makes("nop\n.: nop\n.byte .", "13000000" + "13000000" + "08");
        TimeMachine x = t.fine("nop\n.: nop");
        c.same("it is a label with a name", x.program(0, 3), 1);
        c.same("its address", x.label(0, 0), 4);
        t.makes("nop\n.byte: .byte .byte", "13000000" + "04");
        t.makes("nop\n.text: .data: .equ: nop\n.byte .text, .data, .equ", "13000000" + "13000000" + "040404");
        t.fault(".:\n.:", 4, 2);
        t.makes("nop\nadd: .byte add", "13000000" + "04");
    }

    private static void registerNames() {
        c.sentence("quoted", "REGISTERS have the names x0 .. x31, and, from 0 on: zero ra sp gp tp t0 t1 t2 s0 s1 a0"
                + " .. a7 s2 .. s11 t3 .. t6; fp is s0.");
        for (int r = 0; r < 32; r++) {
            String due = String.format("%02x%02x0000", 0x13 | r << 7 & 0x80, r >> 1 & 15);
            t.makes("mv x" + r + ", zero", due);
            t.makes("mv " + REGISTERS[r] + ", zero", due);
        }
        t.makes("mv fp, zero", "13040000");
        t.faults(3, "mv x32, zero", "mv x00, zero", "mv x01, zero", "mv x031, zero", "mv x, zero", "mv X1, zero",
                "mv Zero, zero",
                "mv a8, zero", "mv s12, zero", "mv t7, zero", "mv r0, zero", "mv a00, zero", "mv a, zero",
                "mv zeros, zero",
                "mv fp0, zero", "mv x1x, zero", "mv x-1, zero", "mv x310, zero", "mv s1s, zero", "mv s00, zero",
                "mv x3a, zero");
    }

    private static void registersAlone() {
        c.sentence("quoted", "No other thing has one of these names.");
        for (int r = 0; r < 32; r++) {
            t.faults(4, "x" + r + ":", REGISTERS[r] + ":", ".equ x" + r + ", 1", ".equ " + REGISTERS[r] + ", 1");
        }
        t.faults(4, "fp:", ".equ fp, 1");
        t.faults(2, "a0", "x0 1");
        t.allFine("x32:", "x00:", "fp0:", "zer0:", "s12:", "t7:", "a8:", "Zero:", ".equ x32, 1");
    }

    private static void primaries() {
        c.sentence("expressions", "numbers; names of constants and labels (addresses); . the address at which the"
                + " statement begins");
        t.makes(".byte 1, ., .\n.byte ., 2", "010000" + "0302");
        t.makes(".equ k, 5\nnop\na: .byte k, a, b\n.byte .\nb:", "13000000" + "050408" + "07");
        // Constants and labels that are defined below count, too, where an e need not be fixed.
        t.makes(".byte k, a\n.equ k, 5\na:", "0502");
        t.makes("nop\n.data\n.half .", "13000000" + "00".repeat(1020) + "0004");
    }

    private static void nearBehind() {
        c.sentence("expressions", "1f the next label 1 (by the text's lines, in whatever section) behind the"
                + " statement");
        t.makes(".byte 1f\n1: .byte 1f\n1: .byte 0", "010200");
        t.makes("1: .byte 1f\n1:", "01");
        t.makes(".half 1f\n.data\n1: .byte 7\n.text\n1:", "0004" + "00".repeat(1022) + "07");
        t.makes(".byte 1f, 1f\n2: 1: 1: .byte 2f\n2:", "0202" + "03");
        t.faults(8, ".byte 1f", "1: .byte 1f", "1: 2: .byte 1f");
        t.fault("1: nop\n.byte 1f\n2:", 8, 2);
    }

    private static void nearBefore() {
        c.sentence("expressions", "1b the latest one before it (in its line, too)");
        t.makes("nop\n1: .byte 1b", "13000000" + "04");
        t.makes("1: nop\n1: .byte 1b\n.byte 1b\n1: .byte 1b", "13000000" + "04" + "04" + "06");
        t.makes("1: nop\n.data\n.half 1b\n1: .half 1b", "13000000" + "00".repeat(1020) + "0000" + "0204");
        t.faults(8, ".byte 1b\n1:", ".byte 1b", "2: .byte 1b");
    }

    private static void signsBefore() {
        c.sentence("expressions", "( e ); - and ~ before one, again and again");
        t.word("-1", -1);
        t.word("--1", 1);
        t.word("---1", -1);
        t.word("~0", -1);
        t.word("~~5", 5);
        t.word("-~-~1", 3);
        t.word("-(1)", -1);
        t.word("~(1 + 1) - -(2)", -1);
        t.word("-1 * -1", 1);
        t.word("2 * -3", -6);
        t.word("-2147483648", Integer.MIN_VALUE);
        t.word("((((((((((1))))))))))", 1);
        t.faults(1, ".word ()", ".word (1", ".word 1)", ".word -", ".word ~", ".word (-)", ".word +1", ".word 1 ~ 1",
                ".word (1)(1)",
                ".word 1 -", ".word", ".word *1", ".word 1 ++1");
        t.word("1 - - 1", 2);
    }

    private static void halves() {
        c.sentence("expressions", "%hi and %lo before ( e ) (two tokens; behind an operand % is the sign of the"
                + " remainder)");
        t.word("%hi(4096)", 1);
        t.word("% hi (4096)", 1);
        t.word("%\tlo\t(4097)", 1);
        t.word("-%hi(4096)", -1);
        t.word("%hi(%lo(4096) + 4096)", 1);
        t.word("%hi(4096) + 1", 2);
        t.word("7 %hi\n.equ hi, 4", 3);
        t.word("7 %lo + 1\n.equ lo, 4", 4);
        t.word("(9) %hi\n.equ hi, 4", 1);
        t.word("9 % %hi(0x5000)", 4);
        t.faults(1, ".word %hi", ".word %hi 1", ".word %hi(1", ".word %(1)", ".word %5", ".word %high(1)",
                ".word %HI(1)", ".word %h(1)",
                ".word %hi()", ".word %%hi(1)", ".word %lo", ".word %lo -1", ".word %");
    }

    private static void ranks() {
        c.sentence("expressions", "and, from those that are done first to the last, * / %, + -, << >>, &, ^, |");
        t.word("2 + 3 * 4", 14);
        t.word("20 - 9 / 3", 17);
        t.word("20 - 9 % 4", 19);
        t.word("1 << 2 + 1", 8);
        t.word("256 >> 4 - 1", 32);
        t.word("3 & 1 << 1", 2);
        t.word("7 & 8 >> 1", 4);
        t.word("1 ^ 3 & 2", 3);
        t.word("1 | 3 ^ 2", 1);
        t.word("1 | 1 ^ 1", 1);
        t.word("1 ^ 1 | 1", 1);
        t.word("1 ^ 1 & 2", 1);
        t.word("2 & 1 ^ 1", 1);
        t.word("6 | 1 & 6", 6);
        t.word("2 * 3 + 4", 10);
        t.word("1 + 1 << 1", 4);
        t.word("6 << 1 & 8", 8);
        t.word("7 & 2 ^ 7", 5);
        t.word("1 ^ 1 | 4", 4);
        t.word("4 | 1 ^ 1 & 3 << 1 + 1 * 1", 4 | 1 ^ 1 & 3 << 1 + 1 * 1);
        t.word("-1 & 5", 5);
        t.word("~1 | 1", -1);
    }

    private static void sameRank() {
        c.sentence("expressions", "those of one sort from the left");
        t.word("10 - 4 - 3", 3);
        t.word("10 - 4 + 3", 9);
        t.word("100 / 10 / 5", 2);
        t.word("100 / 10 * 5", 50);
        t.word("7 * 3 / 2", 10);
        t.word("7 / 2 * 3", 9);
        t.word("7 * 7 % 10", 9);
        t.word("17 % 10 / 2", 3);
        t.word("100 / 7 % 4", 2);
        t.word("7 % 4 * 3", 9);
        t.word("1 << 2 << 3", 32);
        t.word("256 >> 2 >> 1", 32);
        t.word("256 >> 4 << 2", 64);
        t.word("1 << 4 >> 2", 4);
    }

    private static void allPairs() {
        c.sentence("expressions", "from those that are done first to the last");
        Ranks all = new Ranks(false, "* / %", "+ -", "<< >>", "&", "^", "|");
        StringBuilder text = new StringBuilder();
        for (String e : all.texts) {
            text.append(".word ").append(e).append('\n');
        }
        TimeMachine x = t.fine(text.toString());
        for (int i = 0; i < all.texts.size(); i++) {
            int got = x.image(0, 4 * i) | x.image(0, 4 * i + 1) << 8 | x.image(0, 4 * i + 2) << 16 | x.image(0, 4 * i
                    + 3) << 24;
            c.same(all.texts.get(i), got, all.due.get(i));
        }
    }

    private static void wrapAround() {
        c.sentence("expressions", "All are ints that go round");
        t.word("2147483647 + 1", Integer.MIN_VALUE);
        t.word("-2147483648 - 1", Integer.MAX_VALUE);
        t.word("4294967295 + 1", 0);
        t.word("65536 * 65536", 0);
        t.word("2147483647 * 2147483647", 1);
        t.word("-(-2147483648)", Integer.MIN_VALUE);
        t.word("1 << 31", Integer.MIN_VALUE);
        t.word("3 << 31", Integer.MIN_VALUE);
        t.word("-2147483648 / -1", Integer.MIN_VALUE);
        t.word("-2147483648 % -1", 0);
        t.word("0 - 1", -1);
    }

    private static void quotients() {
        c.sentence("expressions", "/ and % towards 0");
        t.word("7 / 2", 3);
        t.word("-7 / 2", -3);
        t.word("7 / -2", -3);
        t.word("-7 / -2", 3);
        t.word("7 % 2", 1);
        t.word("-7 % 2", -1);
        t.word("7 % -2", 1);
        t.word("-7 % -2", -1);
        t.word("0 / 5", 0);
        t.word("4294967295 / 2", 0);
        t.word("1 / 2 + -1 / 2", 0);
    }

    private static void shifts() {
        c.sentence("expressions", "<< and >> (with sign) by the lowest five bits");
        t.word("1 << 0", 1);
        t.word("1 << 31", Integer.MIN_VALUE);
        t.word("1 << 32", 1);
        t.word("1 << 33", 2);
        t.word("1 << -1", Integer.MIN_VALUE);
        t.word("-1 >> 31", -1);
        t.word("-8 >> 1", -4);
        t.word("-8 >> 33", -4);
        t.word("8 >> 32", 8);
        t.word("0x80000000 >> -1", -1);
        t.word("0x7fffffff >> 30", 1);
    }

    private static void highHalf() {
        c.sentence("expressions", "%hi is (e + 2048) >>> 12");
        t.word("%hi(0)", 0);
        t.word("%hi(2047)", 0);
        t.word("%hi(2048)", 1);
        t.word("%hi(4095)", 1);
        t.word("%hi(6143)", 1);
        t.word("%hi(6144)", 2);
        t.word("%hi(-1)", 0);
        t.word("%hi(-2048)", 0);
        t.word("%hi(-2049)", 0xfffff);
        t.word("%hi(0x7fffffff)", 0x80000);
        t.word("%hi(0x7ffff7ff)", 0x7ffff);
        t.word("%hi(0x80000000)", 0x80000);
    }

    private static void lowHalf() {
        c.sentence("expressions", "%lo e << 20 >> 20");
        t.word("%lo(0)", 0);
        t.word("%lo(2047)", 2047);
        t.word("%lo(2048)", -2048);
        t.word("%lo(4095)", -1);
        t.word("%lo(4096)", 0);
        t.word("%lo(-1)", -1);
        t.word("%lo(-2048)", -2048);
        t.word("%lo(-2049)", 2047);
        t.word("%lo(0x7fffffff)", -1);
        t.word("(%hi(0x12345fff) << 12) + %lo(0x12345fff)", 0x12345fff);
    }

    private static void fixed() {
        c.sentence("expressions", "FIXED: without labels, near names and ., all its names being constants that are"
                + " defined above.");
        t.makes(".equ a, 2\n.space a\n.byte 1", "000001");
        t.makes(".equ a, 1\n.equ b, a + 1\n.space a + b\n.byte 1", "00000001");
        t.fault(".space a\n.equ a, 2", 5, 1);
        t.fault(".equ a, 1\n.space a + b\n.equ b, 1", 5, 2);
        t.fault("a: .equ b, a", 5, 1);
        t.fault("a:\n.equ b, a - a", 5, 2);
        t.fault("1: .space 1b", 5, 1);
        t.fault(".space 1f\n1:", 5, 1);
        t.fault(".equ a, .", 5, 1);
        t.fault(".equ a, 0 * .", 5, 1);
        t.fault(".equ a, a", 5, 1);
        t.fault("li a0, foo", 5, 1);
        t.fault(".equ ., 1\n.space .", 5, 2);
        t.fine(".equ a, (1 + 2) * %hi(4096) - 'a'");
    }

    private static void registersInExpressions() {
        c.sentence("expressions", "(A register's name in an e is one that there is not.)");
        t.faults(8, ".word a0", ".word x0", "addi a0, a1, a2", "j ra", "lw a0, a1(a2)", ".byte 1 + zero", ".word fp");
        t.faults(5, ".space a0", "li a0, a1", ".equ a, sp", ".align zero");
    }
}
