/** Breaks: promises 17 to 20, and reason 3 of promises 13 and 14. */
public final class BreakTest {
    private static final Checks c = new Checks();
    private static final String PROGRAM = "li s0, 1\nli s1, -5\nla t0, w\n1: lw t1, 0(t0)\naddi t1, t1, 1\nsw t1, 0(t0)\n"
            + "addi s0, s0, 2\nj 1b\n.data\nw: .word 7, 0x80ff0102";

    public static void main(String[] args) {
        wrongCalls();
        values();
        working();
        failing();
        spaceOfProcess();
        faultsOfTokens();
        faultsOfParts();
        olds();
        hits();
        back();
        backWithOld();
        backFar();
        replacing();
        c.finish();
    }

    private static void wrongCalls() {
        c.about("promises 17 to 20, wrong calls");
        TimeMachine x = new TimeMachine();
        Checks.feed(x, "1");
        c.argument("watch(-1)", () -> x.watch(-1));
        c.argument("watch(8)", () -> x.watch(8));
        c.same("the tape stays", x.count(15), 1);
        c.argument("drop(-1)", () -> x.drop(-1));
        c.argument("drop(8)", () -> x.drop(8));
        c.argument("value(8)", () -> x.value(8));
        c.argument("value(-1)", () -> x.value(-1));
        c.argument("backTo(8)", () -> x.backTo(8));
        c.argument("backTo(-1)", () -> x.backTo(-1));
        c.same("watch(7)", x.watch(7), 0);
        c.same("breaks", x.count(16), 1);
        c.state("value without a machine", () -> x.value(7));
        c.state("backTo without a machine", () -> x.backTo(7));
        Checks.assemble(x, 0, PROGRAM);
        x.boot(0);
        c.same("value", x.value(7), 1);
        c.state("value without a break", () -> x.value(0));
        c.state("backTo without a break", () -> x.backTo(0));
        c.same("drop", x.drop(7) ? 1 : 0, 1);
        c.same("drop again", x.drop(7) ? 1 : 0, 0);
        c.state("value of one that is gone", () -> x.value(7));
        c.same("breaks", x.count(16), 0);
    }

    private static void is(TimeMachine x, String text, long due) {
        c.same("watch of " + text, Checks.watch(x, 0, text), 0);
        c.same("value of " + text, x.value(0), due);
        // Runs are not to be stopped by it.
        x.drop(0);
    }

    private static void values() {
        c.about("promise 19");
        TimeMachine x = c.booted(PROGRAM);
        x.run(6);
        int w = x.label(0, 0);
        is(x, "x8", 1);
        is(x, "x9", -5);
        is(x, "x0 + x2", 65536);
        is(x, "x31", 0);
        is(x, "x5", w);
        is(x, "pc", x.register(0, 32));
        is(x, "pid", 0);
        is(x, "count", 6);
        is(x, "[x5]", 7);
        is(x, "[" + w + "+4]", (int) 0x80ff0102L);
        is(x, "half[x5 + 6]", (short) 0x80ff);
        is(x, "half [ x5 + 4 ]", 0x0102);
        is(x, "byte[x5+7]", 0x80);
        is(x, "byte [0]", x.peek(0, 0));
        is(x, "4294967295", 4294967295L);
        is(x, "0xffffffff", 4294967295L);
        is(x, "007", 7);
        is(x, "0xabcdef", 0xabcdef);
        is(x, "  x8  ", 1);
        is(x, "x10", 0);
    }

    private static void working() {
        c.about("promise 19, what is worked");
        TimeMachine x = c.booted(PROGRAM);
        x.run(6);
        is(x, "1 + 2 * 3", 7);
        is(x, "(1 + 2) * 3", 9);
        is(x, "10 - 3 - 2", 5);
        is(x, "-7 / 2", -3);
        is(x, "-7 % 3", -1);
        is(x, "7 % -3", 1);
        is(x, "1 << 40", 1L << 40);
        is(x, "1 << 65", 2);
        is(x, "-8 >> 1", -4);
        is(x, "-1 >> 63", -1);
        is(x, "1 << 2 + 1", 8);
        is(x, "6 & 3 << 1", 6);
        is(x, "1 | 6 ^ 3 & 2", 1 | (6 ^ (3 & 2)));
        is(x, "1 | 2 == 3", 1);
        is(x, "3 & 1 == 1", 1);
        is(x, "1 < 2 < 3", 1);
        is(x, "3 > 2 > 1", 0);
        is(x, "2 <= 2", 1);
        is(x, "3 <= 2", 0);
        is(x, "2 >= 3", 0);
        is(x, "3 >= 3", 1);
        is(x, "5 != 5", 0);
        is(x, "5 != 6", 1);
        is(x, "-5 == x9", 1);
        is(x, "0 || 0", 0);
        is(x, "0 || 7", 1);
        is(x, "7 || 0", 1);
        is(x, "7 && 8", 1);
        is(x, "7 && 0", 0);
        is(x, "0 && 7", 0);
        is(x, "1 || 0 && 0", 1);
        is(x, "(1 || 0) && 0", 0);
        is(x, "0 && 0 || 1", 1);
        is(x, "0 || 0 || 5", 1);
        is(x, "1 && 2 && 0 || 3", 1);
        is(x, "1 == 1 && 2 == 2", 1);
        is(x, "!0 + !7", 1);
        is(x, "!!9", 1);
        is(x, "~0", -1);
        is(x, "- - 5", 5);
        is(x, "-~!1", 1);
        is(x, "2 - -3", 5);
        is(x, "1 || 1 / 0", 1);
        is(x, "0 && [1]", 0);
        is(x, "(1 || [1]) + (0 && 1 / 0)", 1);
        is(x, "0 || 1 && 0 || 1", 1);
        is(x, "(1<<63) / -1", Long.MIN_VALUE);
        is(x, "(1<<63) % -1", 0);
        is(x, "(1<<63) - 1", Long.MAX_VALUE);
        is(x, "4294967295 * 4294967295 * 4294967295", 4294967295L * 4294967295L * 4294967295L);
    }

    private static void failing() {
        c.about("promise 19, what fails");
        TimeMachine x = c.booted(PROGRAM);
        String[] fails = {"1 / 0", "1 % 0", "1 + (5 / x0)", "[1]", "[2]", "half[1]", "[65536]", "byte[65536]", "byte[-1]",
            "[2048]", "byte[4096]", "half[61438]", "0 || 1 / 0",
            "1 && [1]", "[1 << 40]", "changed(1 / 0)", "!(1 / 0)"};
        for (String text : fails) {
            is(x, text, 0);
        }
        is(x, "byte[65535] + 1", 1);
        is(x, "[65532] + 1", 1);
        is(x, "[0] != 0", 1);
        is(x, "old(1 / 0) + 3", 3);
        x.run(3);
        is(x, "old([1]) + 3", 3);
        is(x, "changed(count) + changed(5)", 1);
    }

    private static void spaceOfProcess() {
        c.about("promise 19, the current process");
        Script s = new Script().data("w: .word 5").call(Script.FORK).add("beqz a0, 1f\nla t0, w\nli t1, 9\nsw t1, 0(t0)");
        s.call(Script.YIELD).stay().add("1: la t0, w\n").stay();
        TimeMachine x = s.booted(c);
        x.run(7);
        int w = x.label(0, 1);
        is(x, "[" + w + "] + pid * 100", 9);
        x.run(2);
        is(x, "[" + w + "] + pid * 100", 105);
        x.run(100);
        is(x, "pid", -1);
        is(x, "x2 + pc", 0);
        is(x, "count > 5", 1);
        is(x, "[" + w + "] + 1", 0);
    }

    private static void fault(String text, int fault, int place) {
        TimeMachine x = new TimeMachine();
        Checks.watch(x, 2, "5");
        c.same("watch of <" + text + ">", Checks.watch(x, 2, text), fault + 8 * place);
        c.same("the break that was stays", x.count(16), 1);
        c.same("the tape is used up", x.count(15), 0);
    }

    private static void faultsOfTokens() {
        c.about("promise 17, faults 1 and 2");
        fault("", 1, 0);
        fault("   ", 1, 3);
        fault("1 +", 1, 3);
        fault("1 +  ", 1, 5);
        fault("1 2", 1, 2);
        fault("1 x1", 1, 2);
        fault("1 foo", 1, 2);
        fault("foo", 2, 0);
        fault("1 + foo", 2, 4);
        fault("x32", 2, 0);
        fault("x01", 2, 0);
        fault("x", 2, 0);
        fault("X1", 2, 0);
        fault("AZ", 2, 0);
        fault("az09", 2, 0);
        fault("\u0007", 1, 0);
        fault("pc2", 2, 0);
        fault("1 = 1", 1, 2);
        fault("1 @ 1", 1, 2);
        fault("@", 1, 0);
        fault("foo\u0007", 1, 3);
        fault("1\n", 1, 1);
        fault("1 + \u00e9 + foo", 1, 4);
        fault("(1", 1, 2);
        fault("1)", 1, 1);
        fault("(1]", 1, 2);
        fault("[1)", 1, 2);
        fault("()", 1, 1);
        fault("[]", 1, 1);
        fault("byte(1)", 1, 4);
        fault("byte 1", 1, 5);
        fault("half", 1, 4);
        fault("old[1]", 1, 3);
        fault("old", 1, 3);
        fault("old 1", 1, 4);
        fault("changed()", 1, 8);
        fault("old(old(x1))", 1, 4);
        fault("old(1 + (2 + changed(3)))", 1, 13);
        fault("changed([old(1)])", 1, 9);
        fault("1 + * 2", 1, 4);
        fault("+1", 1, 0);
        fault("1 ! 2", 1, 2);
        fault("1 ~ 2", 1, 2);
        fault("1 &&& 2", 1, 4);
        fault("1 << < 2", 1, 5);
        fault("5a", 1, 0);
        fault("0x", 1, 0);
        fault("0xA", 1, 0);
        fault("0xg", 1, 0);
        fault("4294967296", 1, 0);
        fault("0x100000000", 1, 0);
        fault("1 5a", 1, 2);
        fault(" ".repeat(119) + "12", 1, 120);
        fault("1" + " ".repeat(120), 1, 120);
        fault("1 + " + " ".repeat(116), 1, 120);
        TimeMachine x = c.booted(PROGRAM);
        is(x, "1" + " ".repeat(119), 1);
        is(x, "old(1) + changed(2) + old((3))", 4);
        is(x, "(old(x0)) + [old(0) * 4 + 1024]", 7);
    }

    private static void faultsOfParts() {
        c.about("promise 17, faults 3 and 4");
        TimeMachine x = c.booted(PROGRAM);
        is(x, "1" + "+1".repeat(19), 20);
        is(x, "-1" + "+1".repeat(19), 18);
        fault("-1" + "+1".repeat(19) + "+1", 3, 40);
        fault("1" + "+1".repeat(20), 3, 40);
        fault("1" + "+1".repeat(19) + "+", 1, 40);
        fault("!".repeat(40) + "1", 3, 40);
        fault("!".repeat(40), 1, 40);
        is(x, "!".repeat(39) + "1", 0);
        fault("!".repeat(40) + "foo", 2, 40);
        fault("!".repeat(40) + ")", 1, 40);
        fault("!".repeat(39) + "byte[0]", 3, 43);
        fault("!".repeat(38) + "byte[0]", 3, 43);
        is(x, "!".repeat(37) + "byte[0]", 0);
        fault("!".repeat(39) + "old(0)", 3, 42);
        fault("!".repeat(40) + "old(0)", 3, 40);
        fault("1+".repeat(20) + "(", 3, 40);
        is(x, "((((((((5))))))))", 5);
        fault("(((((((((5)))))))))", 4, 8);
        fault("((((((((5", 1, 9);
        fault("[".repeat(9), 4, 8);
        fault("((((old(((((1", 4, 11);
        is(x, "((((old((((1))))))))", 1);
        fault("byte[".repeat(9), 4, 44);
        fault("((((((((1)+(2))+(3))+(4))+(5)))))" + ")", 1, 33);
        fault("!".repeat(32) + "(".repeat(9), 3, 40);
        fault("!".repeat(31) + "(".repeat(9), 4, 39);
    }

    private static void olds() {
        c.about("promise 19, old and changed");
        TimeMachine x = c.booted(PROGRAM);
        is(x, "old(count)", 0);
        is(x, "changed(count)", 0);
        x.run(6);
        is(x, "old(count)", 5);
        is(x, "old(x6)", 7);
        is(x, "x6", 8);
        is(x, "changed([x5])", 0);
        x.run(1);
        is(x, "x6 - old(x6)", 0);
        is(x, "changed([x5])", 1);
        is(x, "[x5] - old([x5])", 1);
        x.run(1);
        is(x, "old(x8) * 1000 + x8", 1003);
        x.outside(3, 1, 0);
        is(x, "old(x8) * 1000 + x8", 1003);
        x.run(8);
        Checks.watch(x, 1, "changed([1024])");
        int changes = 0;
        for (int at = 16; at >= 0; at--) {
            x.go(at);
            changes += x.value(1) != 0 ? 1 : 0;
            c.same("NOW", x.count(0), at);
        }
        c.same("changes on the way back to 0", changes, 2);
        // What is old is what was behind the events of the count before.
        TimeMachine y = c.booted("1: j 1b");
        y.run(1);
        Checks.watch(y, 0, "old(pid)");
        Checks.watch(y, 1, "changed(pid) + 5");
        y.outside(2, 0, 9);
        y.run(1);
        c.same("old", y.value(0), 0);
        c.same("changed", y.value(1), 6);
    }

    private static void hits() {
        c.about("promises 13 and 14, breaks");
        TimeMachine x = c.booted(PROGRAM);
        Checks.watch(x, 0, "x8 == 5");
        Checks.watch(x, 3, "count == 4 || count == 9");
        Checks.watch(x, 5, "count >= 9 && count < 11");
        c.same("run", x.run(100), 4);
        c.same("reason", x.reason(), 3 + 8 * 3);
        c.same("where it stands is not asked", x.run(100), 5);
        c.same("the least", x.reason(), 3 + 8 * 3);
        c.same("run", x.run(1), 1);
        c.same("behind the last tick, too", x.reason(), 3 + 8 * 5);
        c.same("run", x.run(1), 1);
        c.same("all ticks", x.reason(), 0);
        c.same("run", x.run(100), 2);
        c.same("reason", x.reason(), 3);
        c.same("at", x.count(0), 13);
        x.go(3);
        c.same("again", x.run(100), 1);
        c.same("reason", x.reason(), 3 + 8 * 3);
        x.boot(0);
        c.same("in a machine booted anew", x.run(100), 4);
        for (int k = 0; k < 8; k++) {
            x.drop(k);
        }
        Checks.watch(x, 7, "1 / (count - 6) == 1");
        c.same("one that fails does not hold", x.run(50), 3);
        c.same("reason", x.reason(), 3 + 8 * 7);
        x.drop(7);
        Checks.watch(x, 2, "1");
        c.same("one that always holds", x.run(50), 1);
        c.same("NOW", x.count(0), 8);
        TimeMachine y = c.booted("li a7, 21\necall");
        Checks.watch(y, 1, "pid < 0");
        c.same("without a current process", y.run(10), 2);
        c.same("reason", y.reason(), 3 + 8);
        c.same("no tick, so not hit", y.run(10), 0);
        c.same("reason", y.reason(), 1);
    }

    private static void back() {
        c.about("promise 20");
        TimeMachine x = c.booted(PROGRAM);
        Checks.watch(x, 1, "count == 0");
        c.same("at 0", x.backTo(1), -1);
        x.run(44);
        Checks.watch(x, 0, "x8 == 5");
        Checks.watch(x, 2, "count % 10 == 0");
        Checks.watch(x, 3, "0");
        c.same("NOW", x.count(0), 44);
        c.same("back", x.backTo(0), 17);
        c.same("NOW", x.count(0), 17);
        c.same("END", x.count(1), 44);
        c.same("s0", x.register(0, 8), 5);
        c.same("one before", x.backTo(0), 16);
        x.go(44);
        c.same("back", x.backTo(2), 40);
        c.same("back", x.backTo(2), 30);
        c.same("none", x.backTo(3), -1);
        c.same("NOW", x.count(0), 30);
        c.same("to 0", x.backTo(1), 0);
        c.same("none below", x.backTo(1), -1);
        c.same("none below", x.backTo(2), -1);
        c.same("NOW", x.count(0), 0);
        c.same("the reason stays", x.reason(), 0);
    }

    private static void backWithOld() {
        c.about("promise 20, with old");
        TimeMachine x = c.booted(PROGRAM);
        x.run(700);
        Checks.watch(x, 0, "changed([1024])");
        Checks.watch(x, 1, "changed(x8) && old(x8) == 1");
        Checks.watch(x, 2, "old(count) == 255");
        Checks.watch(x, 3, "old(count) == 511 || old(count) == 512");
        Checks.watch(x, 4, "old(count) == count");
        int due = x.wrote(0, 1024) + 1;
        c.same("behind a store", x.backTo(0), due);
        c.same("five ticks each", x.backTo(0), due - 5);
        c.same("first change", x.backTo(1), 8);
        x.go(700);
        c.same("at a copy", x.backTo(2), 256);
        x.go(700);
        c.same("behind a copy", x.backTo(3), 513);
        c.same("at a copy", x.backTo(3), 512);
        c.same("only at 0", x.backTo(4), 0);
    }

    private static void backFar() {
        c.about("promise 20, far back");
        TimeMachine x = c.booted(PROGRAM);
        x.run(60000);
        Checks.watch(x, 0, "count == 3");
        Checks.watch(x, 1, "count % 4096 == 0");
        Checks.watch(x, 2, "x8 == 5 && changed(x8)");
        for (int due = 57344; due >= 0; due -= 4096) {
            c.same("back", x.backTo(1), due);
        }
        c.same("none", x.backTo(1), -1);
        x.go(60000);
        c.same("far", x.backTo(0), 3);
        x.go(60000);
        c.same("far", x.backTo(2), 13);
    }

    private static void replacing() {
        c.about("promises 17 and 18");
        TimeMachine x = c.booted(PROGRAM);
        x.run(5);
        Checks.watch(x, 0, "old(count) + 1");
        Checks.watch(x, 1, "count * 2");
        c.same("value", x.value(0), 5);
        c.same("in place of it", Checks.watch(x, 0, "7"), 0);
        c.same("value", x.value(0), 7);
        c.same("a fault", Checks.watch(x, 0, "old(count) + foo"), 2 + 8 * 13);
        c.same("value", x.value(0), 7);
        c.same("another one", x.value(1), 10);
        c.same("drop", x.drop(1) ? 1 : 0, 1);
        c.same("the other one stays", x.value(0), 7);
        Checks.watch(x, 1, "8");
        Checks.watch(x, 2, "9");
        c.same("values", x.value(0) * 100 + x.value(1) * 10 + x.value(2), 789);
        c.same("breaks", x.count(16), 3);
    }
}
