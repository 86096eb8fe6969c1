import java.util.Random;

/** The recording and its log: promises 11, 30 to 32, and scheduled events of 12, 13 and 16. */
public final class LogTest {
    private static final Checks c = new Checks();
    private static final String LOOP = "1: addi s0, s0, 1\nj 1b";

    public static void main(String[] args) {
        wrongCalls();
        packing();
        runs();
        typedAgain();
        events();
        reading();
        faults();
        varints();
        scheduled();
        missed();
        missedAtFirst();
        cutting();
        beyond();
        again();
        c.finish();
    }

    private static void wrongCalls() {
        c.about("promise 11, wrong calls");
        TimeMachine x = new TimeMachine();
        Checks.feed(x, Checks.bytes(0));
        c.argument("replay(-1)", () -> x.replay(-1));
        c.argument("replay(4)", () -> x.replay(4));
        c.state("replay(0)", () -> x.replay(0));
        c.same("the tape stays", x.count(15), 1);
        x.assemble(1);
        Checks.assemble(x, 0, "");
        c.state("replay(1)", () -> x.replay(1));
        c.same("an empty tape", x.replay(0), -1 - 2);
        c.same("nothing is booted", x.count(11), 0);
    }

    private static void packs(String what, TimeMachine x, String due) {
        c.same(what + ", length", x.pack(), due.length() / 2);
        c.same(what, Checks.log(x), due);
        c.same(what + ", behind it", x.logByte(due.length() / 2), -1);
        c.same(what + ", below it", x.logByte(-1), -1);
    }

    private static void packing() {
        c.about("promises 30 and 31");
        TimeMachine x = new TimeMachine();
        packs("nothing booted", x, "00");
        x = c.booted(LOOP);
        c.same("before any", x.logByte(0), -1);
        packs("nothing came", x, "00");
        x.outside(0, 0, 0);
        packs("SWITCH, SAME", x, "0108");
        x.run(3);
        x.outside(0, 0, 0);
        packs("SWITCH", x, "02080003");
        x.outside(1, 0x616263, 3);
        packs("TYPED", x, "03080003" + "3100616263");
        x.outside(2, 0, 15);
        packs("SIGNAL, SAME", x, "04080003" + "3100616263" + "0a0f");
        x.outside(3, 300, 0);
        x.outside(3, 5, 0);
        x.outside(3, 5, 0);
        packs("CLOCK", x, "07080003" + "3100616263" + "0a0f" + "0bac02" + "0b05" + "15");
        x.run(1);
        x.outside(3, 5, 0);
        x.outside(4, 0x12345678L, 0);
        packs("CLOCK as before, RANDOM", x, "09080003" + "3100616263" + "0a0f" + "0bac02" + "0b05" + "15" + "1301"
                + "040012345678");
        x.boot(0);
        c.same("the latest log stays", x.logByte(0), 9);
        x.outside(3, 1L << 40, 0);
        x.outside(1, 0xffffffffffffffffL, 8);
        packs("the largest", x, "02" + "0b808080808020" + "89ffffffffffffffff");
        x.run(200);
        x.outside(4, -1, 0);
        packs("a difference of two bytes", x, "03" + "0b808080808020" + "89ffffffffffffffff" + "04c801ffffffff");
        x.outside(2, 0, 1);
        x.go(0);
        packs("all, up to END", x, "04" + "0b808080808020" + "89ffffffffffffffff" + "04c801ffffffff" + "020001");
    }

    private static void runs() {
        c.about("promise 30, runs");
        TimeMachine x = c.booted(LOOP);
        for (int i = 0; i < 16; i++) {
            x.outside(3, 7, 0);
        }
        packs("15 more", x, "10" + "0b07" + "f5");
        x.outside(3, 7, 0);
        packs("16 more", x, "11" + "0b07" + "0510");
        for (int i = 0; i < 3; i++) {
            x.run(2);
            x.outside(3, 7, 0);
        }
        packs("with another difference", x, "14" + "0b07" + "0510" + "1302" + "25");
        x.outside(3, 8, 0);
        x.outside(3, 7, 0);
        packs("not those with others between", x, "16" + "0b07" + "0510" + "1302" + "25" + "030008" + "0b07");
        for (int i = 0; i < 200; i++) {
            x.outside(3, 7, 0);
        }
        TimeMachine y = c.booted(LOOP);
        for (int i = 0; i < 4; i++) {
            y.run(1);
            y.outside(3, 7, 0);
        }
        packs("before a cut", y, "04" + "030107" + "35");
        y.go(3);
        packs("all, up to END", y, "04" + "030107" + "35");
        y.cut();
        packs("behind a cut", y, "03" + "030107" + "25");
        packs("many", x, "de01" + "0b07" + "0510" + "1302" + "25" + "030008" + "0b07" + "05c801");
    }

    private static void typedAgain() {
        c.about("promise 30, TYPED as before");
        TimeMachine x = c.booted(LOOP);
        x.outside(1, 0x6162, 2);
        x.outside(1, 0x63, 1);
        x.outside(1, 0x6162, 2);
        x.outside(1, 0x63, 1);
        x.outside(1, 0x006162, 3);
        x.outside(1, 0x6162, 2);
        packs("k", x, "06" + "296162" + "1963" + "0902" + "1963" + "39006162" + "0903");
        x = c.booted(LOOP);
        x.outside(1, 0x6162, 2);
        for (int i = 0; i < 19; i++) {
            x.outside(1, i, 1);
            x.outside(3, i, 0);
        }
        x.outside(1, 0x6162, 2);
        x.pack();
        c.same("the twentieth before", x.logByte((int) x.pack() - 1), 20);
        x = c.booted(LOOP);
        x.outside(1, 0x6162, 2);
        for (int i = 0; i < 20; i++) {
            x.outside(1, i, 1);
        }
        x.outside(1, 0x6162, 2);
        x.pack();
        c.same("not the twenty-first", x.logByte((int) x.pack() - 1), 0x62);
    }

    private static void events() {
        c.about("promise 32");
        TimeMachine x = c.booted(LOOP);
        x.outside(0, 0, 9);
        x.run(2);
        x.outside(1, 0x7fff6162, 2);
        x.outside(1, -2, 8);
        x.run(2);
        x.outside(3, 1L << 40, 5);
        x.outside(4, -1, 5);
        x.outside(2, 0, 5);
        long[][] due = {{0, 0, 0, 0}, {1, 2, 0x6162, 2}, {1, 2, -2, 8}, {3, 4, 1L << 40, 0}, {4, 4, 0xffffffffL, 0},
            {2, 4, 0, 5}};
        x.go(1);
        for (int k = 0; k < due.length; k++) {
            for (int what = 0; what < 4; what++) {
                c.same("event(" + k + ", " + what + ")", x.event(k, what), due[k][what]);
            }
            c.same("event(" + k + ", 4)", x.event(k, 4), -1);
            c.same("event(" + k + ", -1)", x.event(k, -1), -1);
        }
        c.same("event(6, 0)", x.event(6, 0), -1);
        c.same("event(-1, 0)", x.event(-1, 0), -1);
    }

    private static void reading() {
        c.about("promise 11");
        TimeMachine x = c.booted(LOOP);
        x.run(9);
        int[] log = {9, 0x08, 0x00, 0x02, 0x31, 0x00, 0x61, 0x62, 0x63, 0x0a, 0x01, 0x0b, 0x05, 0x15, 0x13, 0x01, 0x04, 0x00,
            0x12, 0x34, 0x56, 0x78, 0x01, 0x02, 0x01};
        c.same("replay", Checks.replay(x, 0, log), 9);
        c.same("NOW", x.count(0), 0);
        c.same("END", x.count(1), 0);
        c.same("scheduled", x.count(5), 8);
        c.same("of count 0", x.count(3), 1);
        c.same("the tape is empty", x.count(15), 0);
        c.same("an event while some are scheduled", x.outside(3, 1, 0), 2);
        c.same("event", x.event(0, 0), 0);
        c.same("an event that is scheduled", x.event(1, 0), -1);
        c.same("run", x.run(1), 1);
        c.same("recorded", x.count(3), 1);
        c.same("run", x.run(1), 1);
        c.same("recorded", x.count(3), 6);
        c.same("scheduled", x.count(5), 3);
        c.same("clock", x.count(6), 10);
        c.same("pending", x.process(0, 3), 2);
        c.same("run", x.run(100), 1);
        c.same("it ended", x.reason(), 2);
        c.same("the rest at that count", x.count(3), 8);
        c.same("clock", x.count(6), 15);
        c.same("what is never met", x.count(5), 1);
        c.same("events", x.event(7, 1), 3);
        c.same("an empty log", Checks.replay(x, 0, 0), 0);
        c.same("scheduled", x.count(5), 0);
        c.same("an event", x.outside(3, 1, 0), 0);
    }

    private static void refused(int fault, int place, int... log) {
        TimeMachine x = c.booted(LOOP);
        x.run(3);
        x.outside(3, 4, 0);
        StringBuilder what = new StringBuilder();
        for (int it : log) {
            what.append(it).append(' ');
        }
        c.same("replay of " + what, Checks.replay(x, 0, log), -1 - (fault + 8 * place));
        c.same("the machine stays", x.count(0), 3);
        c.same("the recording stays", x.event(0, 2), 4);
        c.same("the tape is used up", x.count(15), 0);
    }

    private static void faults() {
        c.about("promise 11, faults");
        refused(1, 1, 1, 0x06);
        refused(1, 1, 1, 0x0f);
        refused(1, 1, 1, 0x91, 0);
        refused(1, 1, 1, 0x23, 0);
        refused(1, 1, 1, 0x14, 0);
        refused(1, 2, 2, 0x08, 0x1d);
        refused(1, 2, 2, 0x08, 0x0d);
        refused(1, 1, 1, 0x0d);
        refused(2, 0);
        refused(2, 1, 1);
        refused(2, 1, 0x80);
        refused(2, 2, 1, 0x00);
        refused(2, 3, 1, 0x00, 0x80);
        refused(2, 3, 1, 0x29, 0x61);
        refused(2, 2, 1, 0x0a);
        refused(2, 2, 1, 0x0b);
        refused(2, 5, 1, 0x0c, 1, 2, 3);
        refused(2, 2, 1, 0x09);
        refused(2, 3, 3, 0x08, 0x05);
        refused(4, 1, 1, 0x15);
        refused(4, 1, 1, 0x05, 0x80, 0x00);
        refused(4, 1, 1, 0x09, 0x01);
        refused(4, 2, 2, 0x08, 0x09, 0x01);
        refused(4, 3, 2, 0x19, 0x61, 0x09, 0x02);
        refused(4, 1, 1, 0x1b);
        refused(2, 2, 1, 0x13);
        refused(4, 1, 1, 0x13, 0x00);
        refused(3, 3, 1, 0x13, 0x80, 0x00);
        refused(5, 2, 1, 0x0a, 0);
        refused(5, 2, 1, 0x0a, 32);
        refused(5, 3, 1, 0x02, 0, 255);
        refused(5, 2, 1, 0x09, 0);
        refused(5, 4, 3, 0x19, 0x61, 0x09, 0);
        refused(5, 3, 3, 0x08, 0x05, 0);
        refused(6, 2, 2, 0x08, 0x25);
        refused(6, 2, 3, 0x08, 0x05, 0x03);
        refused(6, 0, 0x81, 0x10);
        refused(6, 0, 0x81, 0x10, 0x06);
        refused(3, 2, 0x81, 0x90, 0x00);
        refused(7, 1, 0, 0);
        refused(7, 2, 1, 0x08, 0x06);
        refused(7, 3, 2, 0x08, 0x15, 0x15);
        refused(7, 2, 1, 0x08, 0x15);
        TimeMachine x = c.booted(LOOP);
        c.same("2048 events", Checks.replay(x, 0, 0x80, 0x10, 0x0b, 1, 0x05, 0xff, 0x0f), 2048);
        c.same("the clock", x.count(6), 2048);
        c.same("a signal of 31", Checks.replay(x, 0, 1, 0x0a, 31), 1);
        c.same("n that is small", Checks.replay(x, 0, 2, 0x08, 0x05, 1), 2);
        c.same("the same bytes again", Checks.replay(x, 0, 3, 0x29, 0x61, 0x62, 0x19, 0x63, 0x09, 0x02), 3);
        c.same("typed", Checks.held(x, 0, 0), "abcab");
    }

    private static void varints() {
        c.about("promise 11, varints");
        refused(3, 3, 1, 0x0b, 0x81, 0x00);
        refused(3, 3, 1, 0x00, 0x80, 0x00);
        refused(3, 7, 1, 0x0b, 0x81, 0x80, 0x80, 0x80, 0x80, 0x20);
        refused(3, 7, 1, 0x0b, 0xff, 0xff, 0xff, 0xff, 0xff, 0x7f);
        refused(3, 8, 1, 0x0b, 0x80, 0x80, 0x80, 0x80, 0x80, 0x80, 0x00);
        refused(3, 8, 1, 0x0b, 0x80, 0x80, 0x80, 0x80, 0x80, 0x80, 0x01);
        refused(3, 8, 1, 0x0b, 0x80, 0x80, 0x80, 0x80, 0x80, 0x80, 0x80, 0x00);
        refused(2, 8, 1, 0x0b, 0x80, 0x80, 0x80, 0x80, 0x80, 0x80);
        refused(3, 6, 0x80, 0x80, 0x80, 0x80, 0x80, 0x80, 0x80);
        refused(3, 1, 0x80, 0x00);
        refused(6, 0, 0x80, 0x80, 0x80, 0x80, 0x80, 0x20);
        TimeMachine x = c.booted(LOOP);
        c.same("the largest", Checks.replay(x, 0, 1, 0x0b, 0x80, 0x80, 0x80, 0x80, 0x80, 0x20), 1);
        c.same("the clock", x.count(6), 1L << 40);
    }

    private static void scheduled() {
        c.about("scheduled events");
        TimeMachine x = c.booted(LOOP);
        // At 2 a CLOCK of 5, at 4 one like it, at 7 one of 6, and a SWITCH.
        c.same("replay", Checks.replay(x, 0, 4, 0x03, 2, 5, 0x15, 0x03, 3, 6, 0x00, 0), 4);
        long[] clocks = {0, 0, 5, 5, 10, 10, 10, 16, 16};
        for (int at = 0; at < clocks.length; at++) {
            c.same("clock at " + at, x.count(6), clocks[at]);
            c.same("scheduled at " + at, x.count(5), at < 2 ? 4 : at < 4 ? 3 : at < 7 ? 2 : 0);
            x.run(1);
        }
        for (int at = clocks.length - 1; at >= 0; at--) {
            x.go(at);
            c.same("clock at " + at, x.count(6), clocks[at]);
            c.same("recorded at " + at, x.count(3), 4);
            c.same("scheduled at " + at, x.count(5), 0);
        }
        c.same("an event at 7", x.event(3, 1), 7);
        Checks.replay(x, 0, 2, 0x03, 2, 5, 0x13, 3);
        x.run(3);
        x.go(1);
        c.same("run over what was scheduled", x.run(3), 3);
        c.same("once", x.count(6), 5);
        x.run(1);
        c.same("then the next", x.count(6), 10);
    }

    private static void missed() {
        c.about("promise 13, an event that can't be taken");
        TimeMachine x = c.booted(LOOP);
        Checks.watch(x, 0, "count == 2");
        // At 2 a CLOCK, then SWITCH to 3, which is absent, then a CLOCK; one more at 4.
        c.same("replay", Checks.replay(x, 0, 4, 0x03, 2, 5, 0x30, 0, 0x1b, 0x13, 2), 4);
        c.same("run", x.run(50), 2);
        c.same("ahead of a break", x.reason(), 5);
        c.same("what came before it", x.count(6), 5);
        c.same("recorded", x.count(3), 1);
        c.same("scheduled no more", x.count(5), 0);
        c.same("once", x.run(3), 3);
        c.same("reason", x.reason(), 0);
        x.go(1);
        c.same("not again", x.run(1), 1);
        c.same("but the break", x.reason(), 3);
        c.same("SIGNAL 20 is no signal", Checks.replay(x, 0, 1, 0x02, 1, 20), 1);
        c.same("run", x.run(50), 1);
        c.same("reason", x.reason(), 5);
    }

    private static void missedAtFirst() {
        c.about("promise 13, an event of count 0 that can't be taken");
        TimeMachine x = c.booted(LOOP);
        int[] log = {3, 0x0b, 5, 0x38, 0x1b};
        c.same("replay", Checks.replay(x, 0, log), 3);
        c.same("recorded", x.count(3), 1);
        c.same("scheduled", x.count(5), 0);
        c.same("the clock", x.count(6), 5);
        c.same("the next run tells it", x.run(10), 0);
        c.same("reason", x.reason(), 5);
        c.same("once", x.run(10), 10);
        c.same("reason", x.reason(), 0);
        Checks.replay(x, 0, log);
        c.argument("no run", () -> x.run(-1));
        x.go(0);
        c.same("by a run of 0 ticks, too", x.run(0), 0);
        c.same("reason", x.reason(), 5);
        c.same("once", x.run(0), 0);
        c.same("reason", x.reason(), 0);
        Checks.replay(x, 0, log);
        x.cut();
        c.same("forgotten by cut", x.run(2), 2);
        c.same("reason", x.reason(), 0);
        Checks.replay(x, 0, log);
        x.boot(0);
        c.same("forgotten by boot", x.run(2), 2);
        Checks.replay(x, 0, log);
        c.same("an event may come then", x.outside(3, 1, 0), 0);
    }

    private static void cutting() {
        c.about("promise 16, scheduled events");
        TimeMachine x = c.booted(LOOP);
        Checks.replay(x, 0, 3, 0x03, 2, 5, 0x13, 2, 0x13, 2);
        x.run(4);
        c.same("taken", x.count(3), 2);
        x.go(3);
        c.same("cut", x.cut(), 1);
        c.same("recorded", x.count(3), 1);
        c.same("scheduled", x.count(5), 0);
        x.run(10);
        c.same("what was scheduled once comes no more", x.count(6), 5);
    }

    private static void beyond() {
        c.about("an event beyond 60000");
        TimeMachine x = c.booted(LOOP);
        c.same("replay", Checks.replay(x, 0, 2, 0x03, 0xe0, 0xd4, 0x03, 5, 0x13, 1), 2);
        c.same("run", x.run(60000), 60000);
        c.same("met at 60000", x.count(6), 5);
        c.same("one stays", x.count(5), 1);
        c.same("run", x.run(10), 0);
        c.same("reason", x.reason(), 4);
        c.same("an event", x.outside(3, 1, 0), 2);
        c.same("cut", x.cut(), 0);
        c.same("an event", x.outside(3, 1, 0), 0);
        c.same("the largest difference", Checks.replay(x, 0, 2, 0x08, 0x00, 0x80, 0x80, 0x80, 0x80, 0x80, 0x20), 2);
    }

    /** A recording that is packed and replayed gives the same run. */
    private static void again() {
        c.about("promise 11, the same run again");
        Script s = new Script().data("b: .space 20");
        s.call(Script.HANDLER, 3, "h").call(Script.FORK).add("1: ").call(Script.READ, 0, "b", 5).add("mv s0, a0");
        s.call(Script.WRITE, 1, "b", "s0").call(Script.RANDOM).call(Script.SLEEP, 3).add("j 1b\nh: ").call(Script.BACK);
        Random random = new Random(5);
        for (int round = 0; round < 10; round++) {
            TimeMachine x = s.booted(c);
            for (int i = 0; i < 400; i++) {
                x.run(random.nextInt(4));
                for (int k = random.nextInt(3); k > 0; k--) {
                    int kind = random.nextInt(5);
                    long a = kind == 0 || kind == 2 ? random.nextInt(3) : kind == 3 ? random.nextInt(4) : random.nextInt(5);
                    x.outside(kind, a, kind == 2 ? 3 : 1 + random.nextInt(3));
                }
            }
            int length = x.pack();
            byte[] log = new byte[length];
            for (int i = 0; i < length; i++) {
                log[i] = (byte) x.logByte(i);
            }
            TimeMachine y = s.booted(c);
            Checks.feed(y, log);
            c.same("replay", y.replay(0), x.count(3));
            int end = (int) x.count(1);
            c.same("run", y.run(end), end);
            c.same("reason", y.reason(), 0);
            c.same("what is seen", TimeSeen.of(y).equals(TimeSeen.of(x)) ? 1 : 0, 1);
            for (int k = 0; k < x.count(3); k++) {
                for (int what = 0; what < 4; what++) {
                    c.same("event", y.event(k, what), x.event(k, what));
                }
            }
            y.pack();
            c.same("the same log", Checks.log(y), Checks.log(x));
            y.go(end / 2);
            x.go(end / 2);
            c.same("what is seen in the middle", TimeSeen.of(y).equals(TimeSeen.of(x)) ? 1 : 0, 1);
        }
    }
}
