/** The boundary cases that the document names of breaks: conditions, their faults and values, promises 17 to 20. */
public final class EdgeBreakTest {
    private static final Checks c = new Checks();
    private static final long LEAST = Long.MIN_VALUE;
    private static final long MOST = Long.MAX_VALUE;
    private static final String PROGRAM = "li s0, -1\nli s1, 0x80000000\nli t6, 31\nli sp, 61444\nla t0, w\n"
            + "1: lw t1, 0(t0)\naddi t1, t1, 1\n"
            + "sw t1, 0(t0)\nj 1b\n.data\nw: .word 7, 0x80ff8102, 0x7fffffff";

    public static void main(String[] args) {
        goesRound();
        truths();
        current();
        withoutOne();
        ofItsSpace();
        length();
        characters();
        blanks();
        numbers();
        words();
        longestSigns();
        ranks();
        sameRank();
        allPairs();
        signsBefore();
        registers();
        bytes();
        shifts();
        quotients();
        notWorked();
        olds();
        changes();
        oldInRuns();
        faultOne();
        oldWithinOld();
        atTheEnd();
        faultTwo();
        faultThree();
        faultFour();
        lesserNumber();
        divisions();
        addresses();
        failsOld();
        hits();
        eightBreaks();
        watches();
        wrongWatches();
        drops();
        values();
        wrongValues();
        backs();
        backsFar();
        c.finish();
    }

    /** The machine that conditions are asked of: at count 7 all its registers are set. */
    private static TimeMachine machine() {
        TimeMachine x = c.booted(PROGRAM);
        x.run(7);
        return x;
    }

    private static void is(String text, long due) {
        is(machine(), text, due);
    }

    private static void is(TimeMachine x, String text, long due) {
        c.same("watch of <" + text + ">", Checks.watch(x, 0, text), 0);
        c.same("value of <" + text + ">", x.value(0), due);
        x.drop(0);
    }

    private static void fault(int fault, int place, String text) {
        TimeMachine x = machine();
        Checks.watch(x, 2, "55");
        c.same("watch of <" + text + ">", Checks.watch(x, 2, text), fault + 8 * place);
        c.same("the break that was stays", x.value(2), 55);
        c.same("the tape is used up", x.count(15), 0);
    }

    private static void goesRound() {
        c.sentence("breaks", "Their VALUES are longs, all arithmetic goes round");
        is("(1 << 63) - 1", MOST);
        is("(1 << 63) - 1 + 1", LEAST);
        is("-(1 << 63)", LEAST);
        is("(1 << 62) * 4", 0);
        is("(1 << 62) * 2", LEAST);
        is("4294967295 * 4294967295", 4294967295L * 4294967295L);
        is("4294967295 + 1", 1L << 32);
        is("0 - 4294967295", -4294967295L);
        is("(1 << 63) / -1", LEAST);
        is("(1 << 63) % -1", 0);
        is("~(1 << 63)", MOST);
    }

    private static void truths() {
        c.sentence("breaks", "a truth is 1 or 0, any other value than 0 is taken as true.");
        is("5 == 5", 1);
        is("5 == 6", 0);
        is("2 || 0", 1);
        is("0 || 2", 1);
        is("0 || 0", 0);
        is("2 && 4", 1);
        is("-1 && 1 << 63", 1);
        is("2 && 0", 0);
        is("!0", 1);
        is("!2", 0);
        is("!-1", 0);
        is("!(1 << 32)", 0);
        is("(3 < 5) + (5 > 3) + (3 != 5) + (3 <= 3) + (3 >= 3)", 5);
        is("(5 < 3) + (3 > 5) + (3 != 3) + (4 <= 3) + (3 >= 4) + (3 < 3) + (3 > 3)", 0);
        TimeMachine x = machine();
        Checks.watch(x, 0, "-1");
        c.same("a break below 0 holds", x.run(9), 1);
        Checks.watch(x, 0, "1 << 32");
        c.same("and one whose lower half is 0", x.run(9), 1);
        c.same("reason", x.reason(), 3);
    }

    private static void current() {
        c.sentence("breaks", "They are asked of the registers x0 .. x31 and the place of the current process (signed;"
                + " all 0 without one), of its number (-1 without one), of the COUNT");
        is("x0", 0);
        is("x2", 61444);
        is("x8", -1);
        is("x9", Integer.MIN_VALUE);
        is("x31", 31);
        is("x5", 1024);
        is("pc", 24);
        is("pid", 0);
        is("count", 7);
        TimeMachine y = c.booted("li a7, 17\nli a0, 5\nli a1, -2\necall\nebreak");
        y.run(5);
        is(y, "pc", -2);
        TimeMachine x = c.booted("li a7, 1\necall\nmv s0, a0\n1: j 1b");
        x.run(3);
        x.outside(0, 1, 0);
        is(x, "pid", 1);
        x.run(1);
        is(x, "x8 * 10 + pid", 1);
        x.outside(0, 0, 0);
        is(x, "x8 * 10 + pid", 10);
    }

    private static void withoutOne() {
        c.sentence("breaks", "(signed; all 0 without one), of its number (-1 without one)");
        TimeMachine x = c.booted("li s0, 5\nli a7, 21\necall");
        x.run(9);
        is(x, "x8", 0);
        is(x, "x2", 0);
        is(x, "pc", 0);
        is(x, "pid", -1);
        is(x, "count", 3);
        is(x, "[0] + 1", 0);
        is(x, "byte[61440] + 1", 0);
        is(x, "old(x8)", 5);
        is(x, "old(pid)", 0);
    }

    private static void ofItsSpace() {
        c.sentence("breaks", "and of the bytes of its space, whatever their rights.");
        TimeMachine x = c.booted("li a7, 1\necall\nla t0, w\nsw a0, 0(t0)\n1: j 1b\n.data\nw: .word 5");
        x.run(7);
        is(x, "[1024]", 1);
        is(x, "byte[0]", x.peek(0, 0));
        is(x, "[61440]", 0);
        x.outside(0, 1, 0);
        is(x, "[1024]", 5);
        x.run(5);
        is(x, "[1024]", 0);
    }

    private static void length() {
        c.sentence("a condition's text", "A condition's text has at most 120 characters 32 .. 126");
        is("1" + " ".repeat(119), 1);
        is(" ".repeat(119) + "1", 1);
        is("0".repeat(119) + "7", 7);
        fault(1, 120, "1" + " ".repeat(120));
        fault(1, 120, " ".repeat(120) + "1");
        fault(1, 120, "1" + " ".repeat(300));
        fault(1, 120, "foo" + " ".repeat(118));
    }

    private static void characters() {
        c.sentence("a condition's text", "a byte of the tape that is none of these, or the 121st, is fault 1 at its"
                + " place, before all others.");
        for (int it = 0; it < 256; it++) {
            if (it < 32 || it > 126) {
                TimeMachine x = new TimeMachine();
                c.same("character " + it, Checks.watch(x, 0, "1  " + (char) it), 1 + 8 * 3);
                c.same("before all others, " + it, Checks.watch(x, 0, "foo" + (char) it), 1 + 8 * 3);
            }
        }
        fault(1, 6, "foo + \n");
        fault(1, 3, "foo\t+ \u0001");
        fault(1, 119, "foo" + " ".repeat(116) + "\u007f");
        fault(1, 120, "foo" + " ".repeat(117) + "\u007f");
        is("1 ", 1);
    }

    private static void blanks() {
        c.sentence("a condition's text", "Blanks (32) stand between TOKENS or not, and end what is in front of them.");
        is("1+2", 3);
        is("  1  +  2  ", 3);
        is("byte [ 1024 ]", 7);
        is("byte[1024]", 7);
        is("old ( count )", 6);
        is("old(count)", 6);
        is("3>2", 1);
        is("1<<2", 4);
        fault(1, 2, "1 2");
        fault(1, 4, "1 < < 2");
        fault(1, 4, "1 & & 2");
        fault(2, 0, "x 1");
        fault(2, 0, "p c");
        fault(1, 2, "0 x10");
        fault(1, 2, "! = 1");
    }

    private static void numbers() {
        c.sentence("a condition's text", "NUMBERS: digits, or 0x and digits 0 .. 9 a .. f, below 2^32 (no letter,"
                + " digit behind it)");
        is("0", 0);
        is("00012", 12);
        is("4294967295", 4294967295L);
        is("0xffffffff", 4294967295L);
        is("0x00000000ffffffff", 4294967295L);
        is("0x0123456", 0x123456);
        is("0x789abcde", 0x789abcdeL);
        is("0xf", 15);
        for (String text : new String[] {"4294967296", "0x100000000", "99999999999999999999", "18446744073709551617",
            "0x", "0xA", "0xF", "0xg", "0X1", "1a",
            "1x", "12pc", "0b1", "0x1g", "0x1G", "1Z", "1z", "0xfffffffff"}) {
            fault(1, 0, text);
            fault(1, 4, "1 + " + text);
        }
    }

    private static void words() {
        c.sentence("a condition's text", "WORDS: letters and digits, the first a letter");
        for (String text : new String[] {"a", "z", "A", "Z", "a0", "z9", "Zz9", "PC", "Count", "x32", "x00", "x01", "x",
            "xx", "x1x", "x100", "pcs", "pi", "counts",
            "bytes", "word", "halfs", "olds", "change", "zero", "ra", "sp", "fp"}) {
            fault(2, 0, text);
            fault(2, 3, "1 +" + text);
        }
        fault(1, 0, "_");
        fault(1, 1, "5_");
        fault(2, 0, "x_");
    }

    private static void longestSigns() {
        c.sentence("a condition's text", "< > | ^ & + - * / % ! ~ ( ) [ ], the longest that can be.");
        is("1<2", 1);
        is("2<=2", 1);
        is("8>>1", 4);
        is("2>=2", 1);
        is("1||0", 1);
        is("1|2", 3);
        is("3&&2", 1);
        is("3&2", 2);
        is("3==3", 1);
        is("3!=3", 0);
        is("6^3", 5);
        is("1<-1", 0);
        is("1<~1", 0);
        is("1!=!1", 1);
        fault(1, 3, "1<<<1");
        fault(1, 3, "1>>>1");
        fault(1, 3, "1|||1");
        fault(1, 3, "1&&&1");
        fault(1, 3, "1===1");
        fault(1, 3, "1<==1");
        fault(1, 1, "1=1");
        fault(1, 2, "1<>1");
        fault(1, 1, "1!1");
        fault(1, 2, "1<|1");
        for (char it = 33; it < 127; it++) {
            if ("\"#$',.:;=?@\\_`{}".indexOf(it) >= 0) {
                fault(1, 0, "" + it);
                fault(1, 2, "1 " + it + " 1");
            }
        }
    }

    private static void ranks() {
        c.sentence("a condition", "from those that bind least on: ||, &&, then == != < <= > >=, |, ^, &, << >>, + -,"
                + " * / %");
        is("1 || 0 && 0", 1);
        is("0 && 0 || 1", 1);
        is("1 && 2 == 3", 0);
        is("2 == 2 && 1", 1);
        is("1 | 2 == 3", 1);
        is("3 == 1 | 2", 1);
        is("4 | 1 ^ 1", 4);
        is("1 ^ 1 | 4", 4);
        is("1 | 1 ^ 1", 1);
        is("1 ^ 1 | 1", 1);
        is("1 ^ 1 & 2", 1);
        is("2 & 1 ^ 1", 1);
        is("1 ^ 3 & 2", 3);
        is("2 & 3 ^ 1", 3);
        is("3 & 1 << 1", 2);
        is("1 << 1 & 3", 2);
        is("1 << 2 + 1", 8);
        is("1 + 1 << 2", 8);
        is("2 + 3 * 4", 14);
        is("3 * 4 + 2", 14);
        is("20 - 7 % 4", 17);
        is("20 - 9 / 2", 16);
        is("7 & 3 < 4", 1);
        is("1 < 2 | 4", 1);
        is("0 || 5 > 4 + 2", 0);
    }

    private static void sameRank() {
        c.sentence("a condition", "of one sort from the left");
        is("10 - 4 - 3", 3);
        is("10 - 4 + 3", 9);
        is("100 / 10 / 5", 2);
        is("100 / 10 * 5", 50);
        is("7 * 3 / 2", 10);
        is("7 / 2 * 3", 9);
        is("7 * 7 % 10", 9);
        is("17 % 10 / 2", 3);
        is("100 / 7 % 4", 2);
        is("1 << 2 << 3", 32);
        is("256 >> 4 << 1", 32);
        is("3 > 2 > 1", 0);
        is("1 < 3 < 2", 1);
        is("2 == 2 == 1", 1);
        is("5 != 5 == 0", 1);
        is("1 <= 0 >= 0", 1);
        is("0 || 0 || 3", 1);
        is("1 && 1 && 0", 0);
    }

    private static void allPairs() {
        c.sentence("a condition", "from those that bind least on");
        Ranks all = new Ranks(true, "* / %", "+ -", "<< >>", "&", "^", "|", "== != < <= > >=", "&&", "||");
        TimeMachine x = machine();
        for (int i = 0; i < all.texts.size(); i++) {
            if (i % 80 == 79) {
                x = machine();
            }
            is(x, all.texts.get(i), all.due.get(i));
        }
    }

    private static void signsBefore() {
        c.sentence("a condition", "then ! - ~ before one, again and again; then a PRIMARY");
        is("--5", 5);
        is("---5", -5);
        is("!!5", 1);
        is("~~5", 5);
        is("-~!0", 2);
        is("!-~0", 0);
        is("-5 * -5", 25);
        is("-2 - -3", 1);
        is("!0 + !0", 2);
        is("-[1024]", -7);
        is("~x8", 0);
        is("-(1 + 2)", -3);
        is("!".repeat(39) + "1", 0);
        is("-".repeat(38) + "1", 1);
    }

    private static void registers() {
        c.sentence("a condition", "a number; x and 0 .. 31 (without 0 in front), pc, pid, count");
        TimeMachine x = machine();
        for (int r = 0; r < 32; r++) {
            is(x, "x" + r, x.register(0, r));
        }
        for (String text : new String[] {"x32", "x33", "x99", "x00", "x01", "x09", "x031", "x310", "x-1"}) {
            fault(2, 0, text);
        }
    }

    private static void bytes() {
        c.sentence("a condition", "(the lowest byte first; word and half signed, byte 0 .. 255)");
        is("[1024]", 7);
        is("[1028]", 0x80ff8102);
        is("[1032]", Integer.MAX_VALUE);
        is("half[1028]", (short) 0x8102);
        is("half[1030]", (short) 0x80ff);
        is("half[1024]", 7);
        is("half[1034]", 0x7fff);
        is("byte[1028]", 2);
        is("byte[1029]", 0x81);
        is("byte[1030]", 255);
        is("byte[1031]", 128);
        is("[x5 + 4 * (3 - 1)]", Integer.MAX_VALUE);
        is("byte[[1024] + 1017]", 7);
        is("[1024] + [1024]", 14);
    }

    private static void shifts() {
        c.sentence("a condition", "Shifts go by the lowest six bits, >> with the sign");
        is("1 << 0", 1);
        is("1 << 63", LEAST);
        is("1 << 64", 1);
        is("1 << 65", 2);
        is("1 << -1", LEAST);
        is("-8 >> 1", -4);
        is("-1 >> 63", -1);
        is("-8 >> 64", -8);
        is("-8 >> 65", -4);
        is("(1 << 63) >> 63", -1);
        is("8 >> -1", 0);
        is("1 << 32", 1L << 32);
    }

    private static void quotients() {
        c.sentence("a condition", "/ and % towards 0, the remainder with the sign of the first.");
        is("7 / 2", 3);
        is("-7 / 2", -3);
        is("7 / -2", -3);
        is("-7 / -2", 3);
        is("7 % 2", 1);
        is("-7 % 2", -1);
        is("7 % -2", 1);
        is("-7 % -2", -1);
        is("0 / 5", 0);
    }

    private static void notWorked() {
        c.sentence("a condition", "a || b is 1, and b is not worked, if a is true; a && b 0 likewise, if it is not;"
                + " else the truth of b.");
        is("1 || 1 / 0", 1);
        is("5 || [1]", 1);
        is("0 || 1 / 0", 0);
        is("(0 || 7) + 1", 2);
        is("0 && 1 / 0", 0);
        is("(0 && [1]) + 1", 1);
        is("1 && 1 / 0", 0);
        is("(1 && 7) + 1", 2);
        is("0 && 1 / 0 || 7", 1);
        is("1 || 1 / 0 || 1 / 0", 1);
        is("1 || 1 / 0 && 1 / 0", 1);
        is("0 && 1 / 0 && 1 / 0 || 0", 0);
        is("1 / 0 || 1", 0);
        is("1 / 0 && 0 || 1", 0);
        is("(1 || 1 / 0) && (0 || 3)", 1);
        is("(0 && 1 / 0) == 0", 1);
    }

    private static void olds() {
        c.sentence("a condition", "old ( e ) is the value that e had at the count before (at count 0: at 0), 0 if it"
                + " failed there.");
        TimeMachine x = c.booted(PROGRAM);
        is(x, "old(count)", 0);
        is(x, "old(x2)", 65536);
        x.run(1);
        is(x, "old(count)", 0);
        is(x, "old(x8)", 0);
        is(x, "x8", -1);
        x.run(9);
        is(x, "old(count)", 9);
        is(x, "old([1024]) * 100 + [1024]", 708);
        is(x, "old(1 / 0) + 3", 3);
        is(x, "old([1]) + 3", 3);
        is(x, "old(1 / (count - 9)) + 3", 3);
        is(x, "old(1 / (count - 10)) + 3", 2);
        is(x, "old(count) + old(x0) + old((count))", 18);
        is(x, "old(count) + 1 == count && (old(0) || old(1))", 1);
        c.same("NOW", x.count(0), 10);
        // Where a copy of the machine stands, and where none does.
        x.run(300);
        for (int at : new int[] {255, 256, 257, 258}) {
            x.go(at);
            is(x, "old(count)", at - 1);
            c.same("NOW", x.count(0), at);
        }
        oldBehindEvents();
    }

    private static void oldBehindEvents() {
        TimeMachine x = c.booted("li a7, 1\necall\n1: j 1b");
        x.run(3);
        x.outside(0, 1, 0);
        x.run(1);
        is(x, "old(pid)", 1);
        x.outside(0, 0, 0);
        is(x, "old(pid) * 10 + pid", 10);
        is(x, "changed(pid)", 1);
        x.go(3);
        is(x, "old(pid) * 10 + pid", 1);
    }

    private static void changes() {
        c.sentence("a condition", "changed ( e ) works e, and is whether that is another value than old ( e ).");
        TimeMachine x = c.booted(PROGRAM);
        is(x, "changed(count)", 0);
        is(x, "changed(pc)", 0);
        x.run(10);
        is(x, "changed(count)", 1);
        is(x, "changed([1024])", 1);
        is(x, "changed(5)", 0);
        is(x, "changed(x0)", 0);
        is(x, "changed(1 / 0)", 0);
        is(x, "changed(1 / 0) + 1", 0);
        is(x, "1 + changed(1 / (count - 9))", 2);
        is(x, "changed(count * 0) + 5", 5);
        x.run(1);
        is(x, "changed([1024])", 0);
        // What failed before was 0, so 0 is no other value.
        is(x, "1 + changed(0 / (count - 10))", 1);
    }

    private static void oldInRuns() {
        c.sentence("a condition", "old ( e ) is the value that e had at the count before");
        TimeMachine x = c.booted(PROGRAM);
        Checks.watch(x, 0, "changed([1024])");
        Checks.watch(x, 1, "old(count) == 12");
        c.same("run to the first store", x.run(100), 10);
        c.same("reason", x.reason(), 3);
        c.same("run", x.run(100), 3);
        c.same("reason", x.reason(), 3 + 8);
        c.same("run to the next store", x.run(100), 1);
        c.same("reason", x.reason(), 3);
    }

    private static void faultOne() {
        c.sentence("faults of a condition", "1 one that can't be there, or is none of these");
        fault(1, 0, "+1");
        fault(1, 0, ")");
        fault(1, 0, "]");
        fault(1, 0, "*");
        fault(1, 2, "1 1");
        fault(1, 2, "1 x1");
        fault(1, 2, "1 (2)");
        fault(1, 2, "1 [2]");
        fault(1, 2, "1 ! 2");
        fault(1, 2, "1 ~2");
        fault(1, 1, "1)");
        fault(1, 1, "1]");
        fault(1, 2, "(1]");
        fault(1, 2, "[1)");
        fault(1, 1, "()");
        fault(1, 1, "[]");
        fault(1, 4, "1 + *");
        fault(1, 4, "byte(1)");
        fault(1, 5, "byte 1");
        fault(1, 5, "half x1");
        fault(1, 3, "old[1]");
        fault(1, 7, "changed[1]");
        fault(1, 4, "old(]");
        fault(1, 6, "byte[1)");
        fault(1, 5, "old(1]");
        fault(1, 0, "#");
        fault(1, 3, "(1 foo)");
    }

    private static void oldWithinOld() {
        c.sentence("faults of a condition", "old and changed within ( ) of old or changed (at any depth)");
        fault(1, 4, "old(old(1))");
        fault(1, 4, "old(changed(1))");
        fault(1, 8, "changed(old(1))");
        fault(1, 8, "changed(changed(1))");
        fault(1, 10, "old(1 + ((old(1))))");
        fault(1, 9, "old([1 + old(1)])");
        fault(1, 9, "old(byte[old(1)])");
        is("old(1) + old(2)", 3);
        is("(old(1) + changed(2))", 1);
        is("[old(1024)]", 7);
        is("-old(3) + old((4))", 1);
    }

    private static void atTheEnd() {
        c.sentence("faults of a condition", "(at the end, if a token must come: at the place behind the last"
                + " character)");
        fault(1, 0, "");
        fault(1, 1, " ");
        fault(1, 3, "   ");
        fault(1, 1, "(");
        fault(1, 2, "(1");
        fault(1, 4, "(1  ");
        fault(1, 3, "1 +");
        fault(1, 5, "1 +  ");
        fault(1, 1, "!");
        fault(1, 4, "byte");
        fault(1, 5, "byte ");
        fault(1, 5, "byte[");
        fault(1, 6, "byte[1");
        fault(1, 3, "old");
        fault(1, 5, "old(1");
        fault(1, 120, "1 + " + " ".repeat(116));
        for (String sign : new String[] {"||", "&&", "==", "!=", "<=", ">=", "<<", ">>"}) {
            fault(1, 3, "1" + sign);
            fault(1, 4, "1 " + sign);
        }
        for (String sign : new String[] {"<", ">", "|", "^", "&", "+", "-", "*", "/", "%"}) {
            fault(1, 2, "1" + sign);
        }
    }

    private static void faultTwo() {
        c.sentence("faults of a condition", "2 a word that is none of those said.");
        fault(2, 0, "foo");
        fault(2, 2, "  foo");
        fault(2, 4, "1 + foo");
        fault(2, 1, "(foo");
        fault(2, 1, "!foo");
        fault(2, 4, "old(foo)");
        fault(2, 1, "[foo]");
        fault(2, 0, "foo(");
        fault(1, 2, "1 foo");
    }

    private static void faultThree() {
        c.sentence("faults of a condition", "3 a part too many: each number, word (old and changed, too), sign before"
                + " or between, [ and ( is one (byte [ and old ( are two each); at most 40.");
        is("1" + "+1".repeat(19), 20);
        is("-1" + "+1".repeat(19), 18);
        fault(3, 40, "-1" + "+1".repeat(20));
        fault(3, 40, "1" + "+1".repeat(20));
        fault(3, 60, "x1" + "+x1".repeat(20));
        is("!".repeat(39) + "1", 0);
        fault(3, 40, "!".repeat(40) + "1");
        is("(".repeat(8) + "1" + "+1".repeat(15) + ")".repeat(8), 16);
        is("-(1" + "+1".repeat(18) + ")", -19);
        fault(3, 40, "(1" + "+1".repeat(19) + "|1)");
        is("[1024]" + "+1".repeat(19), 26);
        fault(3, 44, "[1024]" + "+1".repeat(20));
        is("-byte[0]" + "+1".repeat(18), -machine().peek(0, 0) + 18);
        fault(3, 44, "--byte[0]" + "+1".repeat(18));
        is("old(1)" + "+1".repeat(18), 19);
        fault(3, 43, "old(1)" + "+1".repeat(19));
        is("changed(1)" + "+1".repeat(18), 18);
        fault(3, 47, "changed(1)" + "+1".repeat(19));
        fault(3, 43, "!".repeat(39) + "old (1)");
        fault(3, 40, "!".repeat(40) + "byte[0]");
        fault(3, 42, "!".repeat(39) + "old(1)");
        fault(3, 43, "!".repeat(38) + "byte[0]");
    }

    private static void faultFour() {
        c.sentence("faults of a condition", "4 a ( or [ within eight others that are open.");
        is("((((((((5))))))))", 5);
        fault(4, 8, "(((((((((5)))))))))");
        fault(4, 8, "[[[[[[[[[5");
        fault(4, 8, "(((((((([5");
        is("((((((([1024])))))))", 7);
        fault(4, 12, "((((((((byte[5");
        fault(4, 11, "((((((((old(5");
        is("(((((((old(5))))))))", 5);
        is("(((((((byte[1024])))))))", 7);
        // Those that are closed are open no more.
        is("((((((((1)))))))) + ((((((((2))))))))", 3);
        is("(((((((1)+(2)+(3)))))))", 6);
    }

    private static void lesserNumber() {
        c.sentence("faults of a condition", "Of one token the lesser number counts.");
        fault(3, 40, "!".repeat(32) + "(".repeat(8) + "(");
        fault(1, 40, "!".repeat(40) + ")");
        fault(1, 40, "!".repeat(40));
        fault(2, 40, "!".repeat(40) + "foo");
        fault(1, 40, "!".repeat(40) + "#");
        fault(1, 41, "1" + "+1".repeat(19) + "  foo");
        fault(3, 43, "!".repeat(31) + "(".repeat(8) + "old (1)");
        fault(4, 42, "!".repeat(30) + "(".repeat(8) + "old (1)");
        fault(1, 44, "old(" + "!".repeat(38) + "  old(1)");
        fault(3, 40, "1" + "+1".repeat(19) + "+1");
    }

    private static void divisions() {
        c.sentence("breaks", "it FAILS (and does not hold, its value is 0) when a division by 0 is met");
        is("1 / 0", 0);
        is("1 % 0", 0);
        is("0 / 0", 0);
        is("1 + 5 / x0", 0);
        is("!(1 / 0)", 0);
        is("(1 % 0) == 0", 0);
        is("5 - 1 / (count - 7)", 0);
        TimeMachine x = machine();
        Checks.watch(x, 0, "1 / (count - 9) + 100");
        c.same("it holds at 8", x.run(5), 1);
        c.same("not at 9, but at 10", x.run(5), 2);
    }

    private static void addresses() {
        c.sentence("breaks", "or an address whose bytes are not all on pages that are there, or for words and halves"
                + " no multiple of 4 or 2.");
        for (String text : new String[] {"[65536]", "[-4]", "[2048]", "[61436]", "[1 << 32]", "[1 << 62]",
            "half[65536]", "half[-2]", "half[2048]", "half[61438]",
            "byte[65536]", "byte[-1]", "byte[2048]", "byte[61439]", "byte[1 << 40]", "[4294967295]", "[65536 + 1024]",
            "byte[4294967295 + 1025]", "[1025]",
            "[1026]", "[1027]", "half[1025]", "half[1027]", "[-1]", "half[-1]", "[1 << 63]"}) {
            is("1 + " + text, 0);
        }
        for (String text : new String[] {"[0]", "[1020]", "[2044]", "[61440]", "[65532]", "half[0]", "half[2046]",
            "half[61440]", "half[65534]", "byte[0]",
            "byte[2047]", "byte[61440]", "byte[65535]", "[1028]", "half[1026]", "byte[1025]"}) {
            is("0 * " + text + " + 1", 1);
        }
    }

    private static void failsOld() {
        c.sentence("breaks", "(and does not hold, its value is 0)");
        TimeMachine x = machine();
        Checks.watch(x, 0, "[1] || 1");
        c.same("run", x.run(20), 20);
        c.same("reason", x.reason(), 0);
        c.same("value", x.value(0), 0);
        c.same("backTo", x.backTo(0), -1);
    }

    private static void hits() {
        c.sentence("breaks", "A run hits a break when it holds at a count to which this run ticked.");
        TimeMachine x = c.booted(PROGRAM);
        Checks.watch(x, 0, "count == 0 || count == 5");
        c.same("not where it begins", x.run(3), 3);
        c.same("reason", x.reason(), 0);
        c.same("run", x.run(9), 2);
        c.same("reason", x.reason(), 3);
        c.same("not where it stands", x.run(9), 9);
        x.go(5);
        c.same("gone to", x.run(2), 2);
        c.same("reason", x.reason(), 0);
        x.go(0);
        c.same("again", x.run(60000), 5);
        x.go(2);
        x.drop(0);
        c.same("dropped", x.run(9), 9);
    }

    private static void eightBreaks() {
        c.sentence("breaks", "BREAKS 0 .. 7 may be there.");
        TimeMachine x = c.booted(PROGRAM);
        for (int k = 0; k < 8; k++) {
            c.same("watch(" + k + ")", Checks.watch(x, k, "old(count) + " + k + " == 8"), 0);
        }
        c.same("breaks", x.count(16), 8);
        c.same("a fault, with all there", Checks.watch(x, 3, "old(count) * 7 + foo"), 2 + 8 * 17);
        for (int k = 7; k >= 0; k--) {
            c.same("run", x.run(100), k == 7 ? 2 : 1);
            c.same("reason", x.reason(), 3 + 8 * k);
        }
    }

    private static void watches() {
        c.sentence("promise 17", "The tape becomes break k (0 .. 7), in place of one that was there, and is empty"
                + " then: 0, or the fault + 8 * its place: the break that was stays.");
        TimeMachine x = machine();
        c.same("watch", Checks.watch(x, 3, "5"), 0);
        c.same("the tape", x.count(15), 0);
        c.same("value", x.value(3), 5);
        c.same("in place of it", Checks.watch(x, 3, "6"), 0);
        c.same("value", x.value(3), 6);
        c.same("breaks", x.count(16), 1);
        c.same("a fault", Checks.watch(x, 3, "1 + foo"), 2 + 8 * 4);
        c.same("the tape", x.count(15), 0);
        c.same("it stays", x.value(3), 6);
        c.same("a fault where none was", Checks.watch(x, 4, "foo"), 2);
        c.same("breaks", x.count(16), 1);
        c.state("none is there", () -> x.value(4));
        c.same("an empty tape", x.watch(3), 1);
        c.same("it stays", x.value(3), 6);
    }

    private static void wrongWatches() {
        c.sentence("promise 17", "IllegalArgumentException when k is not 0 .. 7.");
        TimeMachine x = new TimeMachine();
        Checks.feed(x, "5");
        for (int k : new int[] {-1, 8, Integer.MIN_VALUE, Integer.MAX_VALUE}) {
            c.argument("watch(" + k + ")", () -> x.watch(k));
            c.argument("drop(" + k + ")", () -> x.drop(k));
        }
        c.same("the tape stays", x.count(15), 1);
        c.same("watch(0)", x.watch(0), 0);
        c.same("watch(7)", Checks.watch(x, 7, "5"), 0);
        c.same("breaks", x.count(16), 2);
    }

    private static void drops() {
        c.sentence("promise 18", "Break k goes: whether it was there.");
        TimeMachine x = new TimeMachine();
        for (int k = 0; k < 8; k++) {
            c.same("drop(" + k + ") of none", x.drop(k) ? 1 : 0, 0);
            Checks.watch(x, k, "1");
        }
        for (int k = 7; k >= 0; k--) {
            c.same("drop(" + k + ")", x.drop(k) ? 1 : 0, 1);
            c.same("again", x.drop(k) ? 1 : 0, 0);
            c.same("breaks", x.count(16), k);
        }
    }

    private static void values() {
        c.sentence("promise 19", "The value of break k now; 0 when it fails.");
        TimeMachine x = machine();
        Checks.watch(x, 7, "count * 10 + old(count)");
        for (int at : new int[] {7, 3, 1, 0}) {
            x.go(at);
            c.same("at " + at, x.value(7), at * 10 + Math.max(0, at - 1));
            c.same("NOW", x.count(0), at);
        }
        c.same("END", x.count(1), 7);
        Checks.watch(x, 7, "1 / 0");
        c.same("it fails", x.value(7), 0);
        Checks.watch(x, 7, "1 << 63");
        c.same("a long", x.value(7), LEAST);
    }

    private static void wrongValues() {
        c.sentence("promise 19", "IllegalArgumentException when k is not 0 .. 7; else IllegalStateException when it"
                + " is not there, or nothing is booted.");
        TimeMachine none = new TimeMachine();
        TimeMachine x = machine();
        int[] wrong = {-1, 8, Integer.MIN_VALUE, Integer.MAX_VALUE};
        for (int k : wrong) {
            c.argument("value(" + k + ")", () -> none.value(k));
            c.argument("value(" + k + ")", () -> x.value(k));
        }
        for (int k = 0; k < 8; k++) {
            int it = k;
            c.state("value(" + k + ")", () -> x.value(it));
            Checks.watch(none, k, "1");
            c.state("value(" + k + "), nothing booted", () -> none.value(it));
        }
        c.sentence("promise 20", "Throws as value.");
        for (int k : wrong) {
            c.argument("backTo(" + k + ")", () -> none.backTo(k));
            c.argument("backTo(" + k + ")", () -> x.backTo(k));
        }
        for (int k = 0; k < 8; k++) {
            int it = k;
            c.state("backTo(" + k + ")", () -> x.backTo(it));
            c.state("backTo(" + k + "), nothing booted", () -> none.backTo(it));
        }
        c.same("NOW stays", x.count(0), 7);
    }

    private static void backs() {
        c.sentence("promise 20", "The greatest count below NOW at which break k holds is NOW then, and is answered;"
                + " -1, changing nothing, without one.");
        TimeMachine x = c.booted(PROGRAM);
        Checks.watch(x, 0, "1");
        Checks.watch(x, 1, "count == 0");
        Checks.watch(x, 2, "count == 5");
        Checks.watch(x, 3, "0");
        c.same("at 0 there is none below", x.backTo(0), -1);
        x.drop(0);
        x.run(4);
        c.same("not above NOW", x.backTo(2), -1);
        x.go(0);
        x.drop(2);
        x.run(20);
        Checks.watch(x, 0, "1");
        Checks.watch(x, 2, "count == 5");
        c.same("the one below", x.backTo(0), 19);
        c.same("NOW", x.count(0), 19);
        c.same("END", x.count(1), 20);
        c.same("farther", x.backTo(2), 5);
        c.same("not at NOW", x.backTo(2), -1);
        c.same("NOW stays", x.count(0), 5);
        c.same("none", x.backTo(3), -1);
        c.same("NOW stays", x.count(0), 5);
        c.same("0", x.backTo(1), 0);
        c.same("none below 0", x.backTo(1), -1);
        c.same("NOW", x.count(0), 0);
        x.go(1);
        c.same("from 1", x.backTo(0), 0);
    }

    private static void backsFar() {
        c.sentence("promise 20", "The greatest count below NOW at which break k holds");
        TimeMachine x = c.booted(PROGRAM);
        x.run(60000);
        for (int at : new int[] {59999, 57344, 57345, 57343, 49152, 8193, 8192, 8191, 4096, 257, 256, 255, 1, 0}) {
            Checks.watch(x, 0, "count == " + at);
            Checks.watch(x, 1, "old(count) == " + (at - 1) + " && count > 0");
            x.go(60000);
            c.same("back", x.backTo(0), at);
            if (at > 0) {
                x.go(60000);
                c.same("back, with old", x.backTo(1), at);
            }
            x.go(at);
            c.same("not from there", x.backTo(0), -1);
        }
        x.go(5000);
        Checks.watch(x, 0, "count >= 5000");
        c.same("none below", x.backTo(0), -1);
        c.same("NOW", x.count(0), 5000);
        Checks.watch(x, 0, "changed(x0) || count == 60000");
        x.go(60000);
        c.same("none in all", x.backTo(0), -1);
        c.same("NOW", x.count(0), 60000);
    }
}
