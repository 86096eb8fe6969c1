import java.util.List;

/** The boundary cases that the document names of events, counts and the recording: promises 12 to 16, 21 and 29. */
public final class EdgeTimeTest {
    private static final Checks c = new Checks();
    private static final String LOOP = "1: addi s0, s0, 1\nj 1b";
    /** Process 0 goes round; 1 waits for a random word; 2 has ended. */
    private static final String THREE = "li a7, 1\necall\nbeqz a0, 1f\necall\nbeqz a0, 2f\nli a7, 15\necall\n3: j 3b\n"
            + "1: li a7, 21\necall\n"
            + "2: li a7, 0\necall";
    private static final int SWITCH = 0;
    private static final int TYPED = 1;
    private static final int SIGNAL = 2;
    private static final int CLOCK = 3;
    private static final int RANDOM = 4;

    public static void main(String[] args) {
        switches();
        typed();
        signals();
        clocks();
        randoms();
        notTaken();
        recorded();
        endOfTicks();
        asItWas();
        goesOn();
        sameAgain();
        scheduled();
        notMet();
        firstThatCant();
        ofCountZero();
        beyond();
        wrongEvents();
        otherBits();
        notEnd();
        mostEvents();
        wrongRuns();
        ticksMade();
        lastCount();
        lastCountFirst();
        waiting();
        nothingAsked();
        notBehindTheLast();
        behindEach();
        breaksBehindEvents();
        reasons();
        goes();
        cuts();
        cutsSchedule();
        cutsMissed();
        cutNothing();
        wrote();
        wroteNothing();
        wroteByCalls();
        wroteByNumber();
        counts();
        otherCounts();
        c.finish();
    }

    private static TimeMachine three() {
        TimeMachine x = c.booted(THREE);
        x.run(100);
        c.same("READY, WAITING and ENDED", x.process(0, 0) * 100 + x.process(1, 0) * 10 + x.process(2, 0), 123);
        return x;
    }

    private static void switches() {
        c.sentence("outside events", "SWITCH: the process, which must be READY, is the current one.");
        TimeMachine x = three();
        c.same("READY", x.outside(SWITCH, 0, 0), 0);
        c.same("WAITING", x.outside(SWITCH, 1, 0), 1);
        c.same("ENDED", x.outside(SWITCH, 2, 0), 1);
        c.same("ABSENT", x.outside(SWITCH, 3, 0), 1);
        c.same("ABSENT", x.outside(SWITCH, 15, 0), 1);
        c.same("the current one", x.count(2), 0);
        x.outside(RANDOM, 5, 0);
        c.same("READY then", x.outside(SWITCH, 1, 0), 0);
        c.same("the current one", x.count(2), 1);
        c.same("recorded", x.count(3), 3);
    }

    private static void typed() {
        c.sentence("outside events", "TYPED: bytes are typed; they must have room.");
        TimeMachine x = c.booted(LOOP);
        for (int i = 0; i < 64; i++) {
            c.same("eight", x.outside(TYPED, i, 8), 0);
        }
        c.same("no room for one", x.outside(TYPED, 1, 1), 1);
        c.same("typed", x.count(9), 512);
        c.same("recorded", x.count(3), 64);
        TimeMachine y = c.booted(LOOP);
        y.outside(TYPED, 0x0102030405060708L, 8);
        for (int i = 0; i < 8; i++) {
            c.same("the highest of these first", y.held(0, 0, i), i + 1);
        }
        y.outside(TYPED, 0x0102030405060708L, 1);
        c.same("the lowest byte alone", y.held(0, 0, 8), 8);
        y.outside(TYPED, -1, 2);
        c.same("bytes up to 255", y.held(0, 0, 10), 255);
        c.same("bytes", y.count(9), 11);
    }

    private static void signals() {
        c.sentence("outside events", "SIGNAL: it is pending for the process, which must be READY or WAITING; 1 .. 15.");
        TimeMachine x = three();
        for (int number = 16; number <= 31; number++) {
            c.same("number " + number, x.outside(SIGNAL, 0, number), 1);
        }
        c.same("to an ENDED one", x.outside(SIGNAL, 2, 1), 1);
        c.same("to an ABSENT one", x.outside(SIGNAL, 3, 1), 1);
        c.same("none came", x.count(3), 0);
        c.same("none is pending", x.process(0, 3) | x.process(1, 3), 0);
        c.same("1, to a READY one", x.outside(SIGNAL, 0, 1), 0);
        c.same("15, to a READY one", x.outside(SIGNAL, 0, 15), 0);
        c.same("15 again", x.outside(SIGNAL, 0, 15), 0);
        c.same("pending", x.process(0, 3), 1 << 1 | 1 << 15);
        c.same("1, to a WAITING one", x.outside(SIGNAL, 1, 1), 0);
        c.same("which is READY then", x.process(1, 0), 1);
        c.same("recorded", x.count(3), 4);
    }

    private static void clocks() {
        c.sentence("outside events", "CLOCK: it goes on by a (at first it is 0).");
        TimeMachine x = c.booted(LOOP);
        c.same("at first", x.count(6), 0);
        x.outside(CLOCK, 0, 0);
        c.same("by 0", x.count(6), 0);
        x.outside(CLOCK, 1L << 40, 0);
        c.same("by 2^40", x.count(6), 1L << 40);
        x.outside(CLOCK, 1, 0);
        c.same("by 1", x.count(6), (1L << 40) + 1);
        x.run(50);
        c.same("ticks leave it", x.count(6), (1L << 40) + 1);
        c.same("2047 more", Checks.replay(x, 0, 0x80, 0x10, 0x0b, 0x80, 0x80, 0x80, 0x80, 0x80, 0x20, 0x05, 0xff, 0x0f),
                2048);
        c.same("the most", x.count(6), 1L << 51);
    }

    private static void randoms() {
        c.sentence("outside events", "RANDOM: a word, behind those that wait; these must be fewer than 16.");
        TimeMachine x = c.booted("li a7, 21\necall\nmv s0, a0\n1: j 1b");
        for (int i = 0; i < 16; i++) {
            c.same("word " + i, x.outside(RANDOM, 100 + i, 0), 0);
            c.same("wait", x.count(7), i + 1);
        }
        c.same("the seventeenth", x.outside(RANDOM, 116, 0), 1);
        c.same("wait", x.count(7), 16);
        x.run(3);
        c.same("the oldest", x.register(0, 8), 100);
        c.same("one more", x.outside(RANDOM, 116, 0), 0);
        c.same("wait", x.count(7), 16);
        c.same("the next", x.outside(RANDOM, 117, 0), 1);
    }

    private static void notTaken() {
        c.sentence("outside events", "An event that can't be, is not TAKEN.");
        TimeMachine x = three();
        List<Long> was = TimeSeen.of(x);
        x.outside(SWITCH, 1, 0);
        x.outside(SIGNAL, 0, 16);
        x.outside(SIGNAL, 5, 1);
        c.same("nothing changes", TimeSeen.of(x).equals(was) ? 1 : 0, 1);
        c.same("nothing is recorded", x.count(3), 0);
        c.same("no event", x.event(0, 0), -1);
    }

    private static void recorded() {
        c.sentence("the recording", "THE RECORDING has each event that was taken, with the count at which it came.");
        TimeMachine x = c.booted(LOOP);
        x.outside(CLOCK, 1, 0);
        x.outside(SWITCH, 9, 0);
        x.run(3);
        x.outside(CLOCK, 2, 0);
        x.outside(CLOCK, 3, 0);
        x.run(1);
        x.outside(CLOCK, 4, 0);
        c.same("events", x.count(3), 4);
        int[] at = {0, 3, 3, 4};
        for (int k = 0; k < at.length; k++) {
            c.same("count of event " + k, x.event(k, 1), at[k]);
            c.same("what event " + k + " brings", x.event(k, 2), k + 1);
        }
    }

    private static void endOfTicks() {
        c.sentence("the recording", "END the greatest one that was ticked since booting (or the latest cut).");
        TimeMachine x = c.booted(LOOP);
        c.same("at first", x.count(1), 0);
        x.run(10);
        x.go(4);
        c.same("behind a go", x.count(1), 10);
        x.run(3);
        c.same("NOW", x.count(0), 7);
        c.same("below END", x.count(1), 10);
        x.run(5);
        c.same("beyond it", x.count(1), 12);
        x.go(5);
        x.cut();
        c.same("behind a cut", x.count(1), 5);
        x.run(1);
        c.same("then", x.count(1), 6);
        x.boot(0);
        c.same("booted", x.count(1), 0);
    }

    private static void asItWas() {
        c.sentence("the recording", "All that is told of the machine is what it was at NOW, after all events of the"
                + " recording that came at this count.");
        TimeMachine x = c.booted(LOOP);
        x.outside(CLOCK, 1, 0);
        x.run(5);
        x.outside(CLOCK, 10, 0);
        x.outside(TYPED, 7, 3);
        x.run(5);
        x.outside(CLOCK, 100, 0);
        int[] at = {0, 4, 5, 6, 9, 10};
        int[] clock = {1, 1, 11, 11, 11, 111};
        for (int i = at.length - 1; i >= 0; i--) {
            x.go(at[i]);
            c.same("the clock at " + at[i], x.count(6), clock[i]);
            c.same("typed at " + at[i], x.count(9), at[i] < 5 ? 0 : 3);
        }
        x.go(10);
        c.same("one more at END", x.outside(CLOCK, 1000, 0), 0);
        x.go(3);
        x.go(10);
        c.same("it is there again", x.count(6), 1111);
    }

    private static void goesOn() {
        c.sentence("the recording", "Where NOW is below END, run() goes on with the events of the recording; the"
                + " machine is the same there again.");
        TimeMachine x = c.booted("li a7, 21\n1: ecall\nadd s0, s0, a0\nj 1b");
        for (int i = 1; i <= 5; i++) {
            x.run(100);
            x.outside(RANDOM, i, 0);
        }
        x.run(100);
        int end = (int) x.count(1);
        List<Long> last = TimeSeen.of(x);
        c.same("the sum", x.register(0, 8), 15);
        x.go(0);
        c.same("all of it again", x.run(end), end);
        c.same("the same", TimeSeen.of(x).equals(last) ? 1 : 0, 1);
        x.go(end - 1);
        c.same("to END", x.run(100), 1);
        c.same("no more", x.reason(), 1);
        c.same("the same", TimeSeen.of(x).equals(last) ? 1 : 0, 1);
        c.same("recorded", x.count(3), 5);
    }

    private static void sameAgain() {
        c.sentence("what it is", "any count can be gone to, forwards or backwards, and shows the machine as it was");
        TimeMachine x = c.booted("1: la t0, w\nlw t1, 0(t0)\naddi t1, t1, 1\nsw t1, 0(t0)\nli a7, 7\nli a0, 1\n"
                + "mv a1, t0\nli a2, 1\necall\nj 1b\n"
                + ".data\nw: .word 0");
        // Around the counts at which copies of the machine may stand.
        x.run(60000);
        for (int at : new int[] {60000, 0, 59999, 1, 255, 256, 257, 2047, 2048, 2049, 4096, 8191, 8192, 8193, 16384,
            32767, 32768, 40960, 57344, 57345}) {
            x.go(at);
            c.same("NOW", x.count(0), at);
            c.same("the word at " + at, Checks.word(x, 0, 1024), (at + 6) / 11);
            c.same("shown at " + at, x.count(8), (at + 1) / 11);
            c.same("retired at " + at, x.count(14), at - (at + 1) / 11);
        }
    }

    private static void scheduled() {
        c.sentence("the recording", "SCHEDULED events (from a log) are taken as soon as the count to which they"
                + " belong is END, before anything else");
        TimeMachine x = c.booted(LOOP);
        Checks.watch(x, 0, "count == 3 && pid == 0");
        // CLOCK by 5 at 0, at 3, at 3, and at 5.
        c.same("replay", Checks.replay(x, 0, 4, 0x0b, 5, 0x13, 3, 0x13, 0, 0x13, 2), 4);
        c.same("of count 0 at once", x.count(6), 5);
        c.same("scheduled", x.count(5), 3);
        x.run(2);
        c.same("not before their count", x.count(6), 5);
        x.run(1);
        c.same("both of 3", x.count(6), 15);
        c.same("before the break is asked", x.reason(), 3);
        c.same("scheduled", x.count(5), 1);
        c.same("recorded", x.count(3), 3);
        x.run(2);
        c.same("the last", x.count(6), 20);
        x.go(4);
        c.same("it stays recorded", x.count(3), 4);
        x.run(1);
        c.same("and is not taken twice", x.count(6), 20);
        c.same("nothing is scheduled", x.count(5), 0);
    }

    private static void notMet() {
        c.sentence("the recording", "is told by the run that meets it");
        TimeMachine x = c.booted(LOOP);
        // At 2 a SWITCH to 3, which is absent, then CLOCKs at 2 and at 4.
        Checks.replay(x, 0, 3, 0x30, 2, 0x03, 0, 7, 0x13, 2);
        c.same("the run before", x.run(1), 1);
        c.same("tells nothing", x.reason(), 0);
        c.same("the one that meets it", x.run(9), 1);
        c.same("tells it", x.reason(), 5);
        c.same("at", x.count(0), 2);
        c.sentence("the recording", "and it and all behind it are scheduled no more");
        c.same("scheduled", x.count(5), 0);
        c.same("recorded", x.count(3), 0);
        c.same("the next run", x.run(9), 9);
        c.same("tells nothing", x.reason(), 0);
        c.same("none of them came", x.count(6), 0);
        c.same("an event may come", x.outside(CLOCK, 1, 0), 0);
    }

    private static void firstThatCant() {
        c.sentence("the recording", "the first that can't be taken");
        int[][] logs = {{2, 0x03, 1, 5, 0x30, 0}, {2, 0x03, 1, 5, 0x32, 0, 1}, {2, 0x03, 1, 5, 0x02, 0, 16},
            {2, 0x03, 1, 5, 0x02, 0, 31}};
        for (int[] log : logs) {
            TimeMachine x = c.booted(LOOP);
            c.same("replay", Checks.replay(x, 0, log), 2);
            c.same("run", x.run(5), 1);
            c.same("reason", x.reason(), 5);
            c.same("what came before it", x.count(6), 5);
            c.same("recorded", x.count(3), 1);
        }
        TimeMachine x = c.booted(LOOP);
        // Seventeen random words at 1, and 65 times eight bytes.
        Checks.replay(x, 0, 17, 0x04, 1, 1, 2, 3, 4, 0x0c, 1, 2, 3, 4);
        c.same("a log with a fault boots nothing", x.count(5), 0);
        Checks.replay(x, 0, 18, 0x03, 1, 0, 0x04, 0, 1, 2, 3, 4, 0x05, 16);
        x.run(5);
        c.same("the seventeenth word", x.reason(), 5);
        c.same("words", x.count(7), 16);
        Checks.replay(x, 0, 66, 0x03, 1, 0, 0x81, 0, 1, 2, 3, 4, 5, 6, 7, 8, 0x05, 64);
        x.run(5);
        c.same("bytes without room", x.reason(), 5);
        c.same("bytes", x.count(9), 512);
    }

    private static void ofCountZero() {
        c.sentence("the recording", "(those of count 0: by the next run, once)");
        for (int n : new int[] {0, 1, 60000}) {
            TimeMachine x = c.booted(LOOP);
            c.same("replay", Checks.replay(x, 0, 3, 0x0b, 5, 0x38, 0x13, 1), 3);
            c.same("what came before it", x.count(6), 5);
            c.same("scheduled no more", x.count(5), 0);
            c.same("run(" + n + ") makes no tick", x.run(n), 0);
            c.same("reason", x.reason(), 5);
            c.same("NOW", x.count(0), 0);
            c.same("once", x.run(3), 3);
            c.same("reason", x.reason(), 0);
        }
        c.sentence("promise 13", "(5, without a tick, also when it was one of count 0;");
        TimeMachine x = c.booted(LOOP);
        Checks.replay(x, 0, 1, 0x38);
        c.argument("a refused run", () -> x.run(-1));
        c.same("tells nothing", x.reason(), 0);
        x.go(0);
        c.same("the next run does, also behind a go", x.run(1), 0);
        c.same("reason", x.reason(), 5);
        Checks.replay(x, 0, 1, 0x38);
        x.boot(0);
        c.same("not of a machine booted since", x.run(1), 1);
        Checks.replay(x, 0, 1, 0x38);
        Checks.replay(x, 0, 0);
        c.same("nor of another log", x.run(1), 1);
        Checks.replay(x, 0, 1, 0x38);
        c.same("a log with a fault leaves it", Checks.replay(x, 0, 9), -1 - (2 + 8));
        c.same("told", x.run(1), 0);
        c.same("reason", x.reason(), 5);
    }

    private static void beyond() {
        c.sentence("the recording", "(one beyond 60000 is never met, and stays)");
        TimeMachine x = c.booted(LOOP);
        // At 60000 a CLOCK by 5; one more at 60001.
        Checks.replay(x, 0, 2, 0x03, 0xe0, 0xd4, 0x03, 5, 0x13, 1);
        c.same("run", x.run(59999), 59999);
        c.same("not yet", x.count(6), 0);
        c.same("run", x.run(60000), 1);
        c.same("reason", x.reason(), 4);
        c.same("met at 60000", x.count(6), 5);
        c.same("one stays", x.count(5), 1);
        c.same("run", x.run(1), 0);
        c.same("it stays", x.count(5), 1);
        c.same("no event may come", x.outside(CLOCK, 1, 0), 2);
        TimeMachine y = c.booted("li a7, 0\necall");
        Checks.replay(y, 0, 1, 0x03, 3, 5);
        y.run(100);
        c.same("one behind the last tick stays, too", y.count(5), 1);
        c.same("no process is left", y.reason(), 2);
    }

    private static void wrongEvents() {
        c.sentence("promise 12", "IllegalArgumentException when something is not as said of events; else"
                + " IllegalStateException when nothing is booted.");
        TimeMachine none = new TimeMachine();
        TimeMachine booted = c.booted(LOOP);
        long[][] wrong = {{-1, 0, 1}, {5, 0, 1}, {6, 0, 1}, {Integer.MIN_VALUE, 0, 1}, {Integer.MAX_VALUE, 0, 1},
            {0, -1, 0}, {0, 16, 0},
            {0, 1L << 32, 0}, {0, Long.MIN_VALUE, 0}, {1, 0, 0}, {1, 0, 9}, {1, 0, -1}, {1, 0, Integer.MAX_VALUE},
            {2, -1, 1}, {2, 16, 1},
            {2, 1L << 40, 1}, {2, 0, 0}, {2, 0, 32}, {2, 0, -1}, {2, 0, Integer.MIN_VALUE}, {3, -1, 0},
            {3, (1L << 40) + 1, 0},
            {3, Long.MAX_VALUE, 0}, {3, Long.MIN_VALUE, 0}};
        for (long[] it : wrong) {
            String what = "outside(" + it[0] + ", " + it[1] + ", " + it[2] + ")";
            c.argument(what, () -> none.outside((int) it[0], it[1], (int) it[2]));
            c.argument(what, () -> booted.outside((int) it[0], it[1], (int) it[2]));
        }
        c.sentence("the recording", "0 SWITCH: a process 0 .. 15. 1 TYPED: 1 to 8 bytes 0 .. 255. 2 SIGNAL: a process"
                + " 0 .. 15 and a number 1 .. 31. 3 CLOCK: how far it goes, 0 .. 2^40. 4 RANDOM: a word of 32 bits.");
        long[][] good = {{0, 0, -1}, {0, 15, 99}, {1, -1, 1}, {1, 5, 8}, {2, 0, 1}, {2, 15, 31}, {3, 0, -5},
            {3, 1L << 40, 0},
            {4, Long.MIN_VALUE, -1}, {4, -1, 77}};
        for (long[] it : good) {
            c.state("outside(" + it[0] + ", " + it[1] + ", " + it[2] + ")",
                    () -> none.outside((int) it[0], it[1], (int) it[2]));
        }
        c.same("none came", booted.count(3), 0);
    }

    private static void otherBits() {
        c.sentence("promise 12", "RANDOM the lowest 32 bits of a (what else is in a, b doesn't matter): 0 when it is"
                + " taken");
        TimeMachine x = c.booted("li a7, 21\necall\nmv s0, a0\n1: j 1b");
        c.same("RANDOM", x.outside(RANDOM, 0x123456789abcdef0L, -1), 0);
        c.same("TYPED", x.outside(TYPED, 0x123456789abcdef0L, 3), 0);
        c.same("SWITCH", x.outside(SWITCH, 0, 12345), 0);
        c.same("CLOCK", x.outside(CLOCK, 7, -9), 0);
        long[][] due = {{4, 0, 0x9abcdef0L, 0}, {1, 0, 0xbcdef0L, 3}, {0, 0, 0, 0}, {3, 0, 7, 0}};
        for (int k = 0; k < due.length; k++) {
            for (int what = 0; what < 4; what++) {
                c.same("event(" + k + ", " + what + ")", x.event(k, what), due[k][what]);
            }
        }
        x.run(3);
        c.same("the word", x.register(0, 8), 0x9abcdef0);
    }

    private static void notEnd() {
        c.sentence("promise 12", "2 when NOW is not END or events are scheduled");
        TimeMachine x = c.booted(LOOP);
        x.run(5);
        x.go(4);
        c.same("NOW is not END", x.outside(CLOCK, 1, 0), 2);
        c.same("ahead of one that can't be", x.outside(SWITCH, 9, 0), 2);
        c.argument("behind one that is not as said", () -> x.outside(SWITCH, 16, 0));
        x.go(5);
        c.same("NOW is END", x.outside(CLOCK, 1, 0), 0);
        x.go(0);
        c.same("at 0", x.outside(CLOCK, 1, 0), 2);
        Checks.replay(x, 0, 1, 0x03, 3, 5);
        c.same("one is scheduled", x.outside(CLOCK, 1, 0), 2);
        c.same("ahead of one that can't be", x.outside(SWITCH, 9, 0), 2);
        x.run(3);
        c.same("none is scheduled", x.outside(CLOCK, 1, 0), 0);
        c.same("one that can't be", x.outside(SWITCH, 9, 0), 1);
        c.same("recorded", x.count(3), 2);
    }

    private static void mostEvents() {
        c.sentence("promise 12", "else 3 when 2048 are recorded; else 1 when it can't be.");
        TimeMachine x = c.booted(LOOP);
        // 2047 CLOCKs at 0.
        c.same("replay", Checks.replay(x, 0, 0xff, 0x0f, 0x0b, 1, 0x05, 0xfe, 0x0f), 2047);
        c.same("recorded", x.count(3), 2047);
        c.same("one that can't be", x.outside(SWITCH, 9, 0), 1);
        c.same("the 2048th", x.outside(CLOCK, 1, 0), 0);
        c.same("the 2049th", x.outside(CLOCK, 1, 0), 3);
        c.same("ahead of one that can't be", x.outside(SWITCH, 9, 0), 3);
        c.same("recorded", x.count(3), 2048);
        c.same("the clock", x.count(6), 2048);
        x.run(1);
        x.go(0);
        c.same("behind NOW", x.outside(CLOCK, 1, 0), 2);
        c.same("the last of them", x.event(2047, 0), CLOCK);
        c.same("no more", x.event(2048, 0), -1);
    }

    private static void wrongRuns() {
        c.sentence("promise 13", "IllegalArgumentException when n is not 0 .. 60000; else IllegalStateException when"
                + " nothing is booted.");
        TimeMachine none = new TimeMachine();
        TimeMachine x = c.booted(LOOP);
        for (int n : new int[] {-1, 60001, Integer.MIN_VALUE, Integer.MAX_VALUE}) {
            c.argument("run(" + n + ")", () -> none.run(n));
            c.argument("run(" + n + ")", () -> x.run(n));
        }
        for (int n : new int[] {0, 1, 60000}) {
            c.state("run(" + n + ")", () -> none.run(n));
        }
        c.same("NOW", x.count(0), 0);
        c.same("run(60000)", x.run(60000), 60000);
    }

    private static void ticksMade() {
        c.sentence("promise 13", "Up to n ticks, each followed by what events come then: how many it were.");
        TimeMachine x = c.booted(LOOP);
        c.same("run(0)", x.run(0), 0);
        c.same("run(1)", x.run(1), 1);
        c.same("run(7)", x.run(7), 7);
        c.same("NOW", x.count(0), 8);
        TimeMachine y = c.booted("li a7, 0\necall");
        c.same("fewer", y.run(7), 2);
        c.same("none", y.run(7), 0);
    }

    private static void lastCount() {
        c.sentence("promise 13", "4 the count is 60000");
        TimeMachine x = c.booted(LOOP);
        c.same("all", x.run(60000), 60000);
        c.same("not asked behind the last tick", x.reason(), 0);
        c.same("no tick more", x.run(1), 0);
        c.same("reason", x.reason(), 4);
        c.same("not asked without ticks", x.run(0), 0);
        c.same("reason", x.reason(), 0);
        x.go(59998);
        c.same("two more", x.run(3), 2);
        c.same("reason", x.reason(), 4);
        c.same("END", x.count(1), 60000);
        c.same("an event at 60000", x.outside(CLOCK, 1, 0), 0);
        c.same("its count", x.event(0, 1), 60000);
    }

    private static void lastCountFirst() {
        c.sentence("promise 13", "asked before each tick: 4 the count is 60000; 1 no current process, but some that"
                + " wait; 2 no process but ended ones");
        TimeMachine x = c.booted(LOOP);
        x.run(59999);
        x.outside(SIGNAL, 0, 9);
        c.same("the last tick", x.run(9), 1);
        c.same("4, though there is no process", x.reason(), 4);
        c.same("none is left", x.count(11), 0);
        TimeMachine y = c.booted("li a7, 21\necall\nj 0");
        y.run(2);
        c.same("waiting", y.run(9), 0);
        c.same("reason", y.reason(), 1);
        y.outside(SIGNAL, 0, 9);
        c.same("ended", y.run(9), 1);
        c.same("reason", y.reason(), 2);
    }

    private static void waiting() {
        c.sentence("promise 13", "1 no current process, but some that wait; 2 no process but ended ones");
        // A parent that waits for a child that has ended is READY; one that sleeps waits, with an ended child.
        TimeMachine x = c.booted("li a7, 1\necall\nbeqz a0, 1f\nli a7, 19\nli a0, 9\necall\nli a7, 0\necall\n"
                + "1: li a7, 0\necall");
        x.run(1000);
        c.same("one waits, one has ended", x.process(0, 0) * 10 + x.process(1, 0), 23);
        c.same("reason", x.reason(), 1);
        x.outside(CLOCK, 9, 0);
        x.run(1000);
        c.same("none", x.count(11), 0);
        c.same("reason", x.reason(), 2);
    }

    private static void nothingAsked() {
        c.sentence("promise 13", "0 if it is none of these, all n being made (or n being 0: then nothing is asked but"
                + " 5).");
        TimeMachine x = c.booted("li a7, 21\necall\nli a7, 0\necall");
        Checks.watch(x, 0, "1");
        c.same("run(0)", x.run(0), 0);
        c.same("no break is asked", x.reason(), 0);
        x.drop(0);
        x.run(2);
        c.same("run(0), waiting", x.run(0), 0);
        c.same("reason", x.reason(), 0);
        x.run(1);
        c.same("the reason of a run before", x.reason(), 1);
        x.run(0);
        c.same("is one no more", x.reason(), 0);
        x.outside(RANDOM, 1, 0);
        x.run(3);
        c.same("run(0), without a process", x.run(0), 0);
        c.same("reason", x.reason(), 0);
    }

    private static void notBehindTheLast() {
        c.sentence("promise 13", "5 is asked ahead of 3; 4, 1, 2 not behind the last tick.)");
        TimeMachine x = c.booted("li a7, 21\necall\nli a7, 0\necall");
        c.same("the tick that waits", x.run(2), 2);
        c.same("1 is not asked", x.reason(), 0);
        x.outside(RANDOM, 1, 0);
        c.same("the tick that ends it", x.run(3), 3);
        c.same("2 is not asked", x.reason(), 0);
        TimeMachine y = c.booted(LOOP);
        Checks.watch(y, 0, "count == 2");
        Checks.replay(y, 0, 1, 0x30, 2);
        c.same("both at 2", y.run(9), 2);
        c.same("5 ahead of 3", y.reason(), 5);
        y.go(0);
        c.same("again", y.run(9), 2);
        c.same("now the break", y.reason(), 3);
    }

    private static void behindEach() {
        c.sentence("promise 13", "behind each tick and its events, the last one's, too: 5 a scheduled event could not"
                + " be taken; 3 a break is hit");
        TimeMachine x = c.booted(LOOP);
        Checks.watch(x, 4, "count == 3");
        c.same("the last tick", x.run(3), 3);
        c.same("a break", x.reason(), 3 + 8 * 4);
        Checks.replay(x, 0, 1, 0x30, 2);
        c.same("the last tick", x.run(2), 2);
        c.same("an event", x.reason(), 5);
        TimeMachine y = c.booted("li a7, 0\necall");
        Checks.watch(y, 1, "count == 2");
        c.same("a break ahead of no process", y.run(9), 2);
        c.same("reason", y.reason(), 3 + 8);
    }

    private static void breaksBehindEvents() {
        c.sentence("breaks", "as the machine is after all events of this count that were taken before the next tick");
        TimeMachine x = c.booted("li a7, 1\necall\n1: j 1b");
        Checks.watch(x, 0, "pid == 1");
        // At 3 a SWITCH to 1.
        Checks.replay(x, 0, 1, 0x10, 3);
        c.same("run", x.run(9), 3);
        c.same("reason", x.reason(), 3);
        x.go(0);
        c.same("and again, from the recording", x.run(9), 3);
        c.same("reason", x.reason(), 3);
        x.go(3);
        c.same("an event at END counts for what is told", x.outside(SWITCH, 0, 0), 0);
        c.same("the value", x.value(0), 0);
        x.go(0);
        c.same("and for the run that comes there again", x.run(3), 3);
        c.same("reason", x.reason(), 0);
    }

    private static void reasons() {
        c.sentence("promise 14", "Why the latest run stopped (also one of a machine before); 3 + 8 * the least break"
                + " that was hit. 0 before any.");
        TimeMachine x = new TimeMachine();
        c.same("before any", x.reason(), 0);
        Checks.assemble(x, 0, LOOP);
        x.boot(0);
        c.same("booted", x.reason(), 0);
        Checks.watch(x, 7, "count == 2");
        Checks.watch(x, 5, "count == 2");
        Checks.watch(x, 6, "count < 2 && 0");
        x.run(9);
        c.same("the least that was hit", x.reason(), 3 + 8 * 5);
        x.drop(5);
        x.go(0);
        c.same("it stays behind a go", x.reason(), 3 + 8 * 5);
        x.run(9);
        c.same("the last one", x.reason(), 3 + 8 * 7);
        x.boot(0);
        c.same("of a machine before", x.reason(), 3 + 8 * 7);
        c.argument("run(-1)", () -> x.run(-1));
        c.same("a refused run is none", x.reason(), 3 + 8 * 7);
        x.cut();
        x.value(7);
        x.backTo(7);
        c.same("it stays", x.reason(), 3 + 8 * 7);
        Checks.watch(x, 0, "count == 1");
        x.run(9);
        c.same("the least there can be", x.reason(), 3);
    }

    private static void goes() {
        c.sentence("promise 15", "IllegalArgumentException when c is not 0 .. END (or nothing is booted).");
        TimeMachine none = new TimeMachine();
        TimeMachine x = c.booted(LOOP);
        for (int at : new int[] {-1, 0, 1, 60000, Integer.MIN_VALUE, Integer.MAX_VALUE}) {
            c.argument("go(" + at + "), nothing booted", () -> none.go(at));
            if (at != 0) {
                c.argument("go(" + at + ")", () -> x.go(at));
            }
        }
        x.go(0);
        x.run(10);
        x.go(3);
        c.argument("go(11)", () -> x.go(11));
        c.argument("go(-1)", () -> x.go(-1));
        c.same("NOW stays", x.count(0), 3);
        x.go(3);
        c.same("to NOW", x.count(0), 3);
        x.go(10);
        c.same("to END", x.count(0), 10);
        x.go(0);
        c.same("to 0", x.count(0), 0);
        c.same("END", x.count(1), 10);
    }

    private static void cuts() {
        c.sentence("promise 16", "END is NOW: what was recorded behind is forgotten");
        TimeMachine x = c.booted(LOOP);
        for (int i = 0; i < 4; i++) {
            x.outside(CLOCK, 1 + i, 0);
            x.run(2);
        }
        x.outside(CLOCK, 5, 0);
        x.go(4);
        c.same("recorded", x.count(3), 5);
        c.same("cut", x.cut(), 4);
        c.same("END", x.count(1), 4);
        c.same("those at NOW stay", x.count(3), 3);
        c.same("the last", x.event(2, 1), 4);
        c.same("no more", x.event(3, 0), -1);
        c.same("the clock", x.count(6), 6);
        c.argument("go(5)", () -> x.go(5));
        c.same("cut again", x.cut(), 0);
        x.run(10);
        c.same("what was forgotten comes no more", x.count(6), 6);
        x.go(3);
        c.same("cut", x.cut(), 11);
        c.same("recorded", x.count(3), 2);
        x.go(0);
        c.same("cut all", x.cut(), 3);
        c.same("those of 0 stay", x.count(3), 1);
        c.same("END", x.count(1), 0);
        farCut();
    }

    /** Behind a cut another run goes where copies of the machine may have stood. */
    private static void farCut() {
        TimeMachine x = c.booted("1: rdtime t0\nadd s0, s0, t0\nj 1b");
        x.run(5000);
        x.go(1000);
        c.same("cut", x.cut(), 4000);
        x.outside(CLOCK, 1, 0);
        x.run(4000);
        // The ticks from 1003, 1006 and so on add a clock that was read behind the event.
        int[] due = {0, 0, 333, 1333};
        int[] at = {999, 1001, 2000, 5000};
        for (int i = at.length - 1; i >= 0; i--) {
            x.go(at[i]);
            c.same("the sum at " + at[i], x.register(0, 8), due[i]);
        }
    }

    private static void cutsSchedule() {
        c.sentence("promise 16", "(also what had been scheduled once), and what is scheduled");
        TimeMachine x = c.booted(LOOP);
        Checks.replay(x, 0, 4, 0x03, 2, 5, 0x13, 2, 0x13, 2, 0x13, 2);
        x.run(5);
        c.same("recorded and scheduled", x.count(3) * 10 + x.count(5), 22);
        x.go(3);
        c.same("cut", x.cut(), 2);
        c.same("recorded and scheduled", x.count(3) * 10 + x.count(5), 10);
        c.same("an event may come", x.outside(CLOCK, 0, 0), 0);
        x.run(20);
        c.same("none of the others comes", x.count(6), 5);
        Checks.replay(x, 0, 1, 0x03, 2, 5);
        c.same("no tick went", x.cut(), 0);
        c.same("scheduled", x.count(5), 0);
    }

    private static void cutsMissed() {
        c.sentence("promise 16", "(and that one could not be taken, if no run told it): how many ticks went.");
        TimeMachine x = c.booted(LOOP);
        Checks.replay(x, 0, 1, 0x38);
        c.same("cut", x.cut(), 0);
        c.same("no run tells it", x.run(2), 2);
        c.same("reason", x.reason(), 0);
        Checks.replay(x, 0, 1, 0x38);
        x.run(0);
        c.same("told", x.reason(), 5);
        x.cut();
        c.same("what was told stays told", x.reason(), 5);
    }

    private static void cutNothing() {
        c.sentence("promise 16", "how many ticks went.");
        TimeMachine x = new TimeMachine();
        c.same("nothing is booted", x.cut(), 0);
        Checks.assemble(x, 0, LOOP);
        x.boot(0);
        c.same("nothing was ticked", x.cut(), 0);
        x.run(60000);
        c.same("NOW is END", x.cut(), 0);
        x.go(0);
        c.same("all", x.cut(), 60000);
    }

    private static final String WRITES = "la t0, w\nsw t0, 4(t0)\nsb t0, 3(t0)\nsh t0, 8(t0)\nlr.w t1, (t0)\n"
            + "sc.w t2, t1, (t0)\nsc.w t2, t1, (t0)\n"
            + "lw t1, 0(t0)\nsb t0, -1(sp)\nsb t0, 11(t0)\nli a7, 21\necall\n.data\nw: .word 0, 0, 0";

    private static void wrote() {
        c.sentence("promise 21", "The greatest count below NOW, from which a tick wrote the byte at an address of the"
                + " space of process p: a store, an atomic one (one that is conditional, when it was done), or PIPE"
                + " or READ");
        TimeMachine x = c.booted(WRITES);
        x.run(100);
        int w = 1024;
        int[] at = {w - 1, w, w + 2, w + 3, w + 4, w + 7, w + 8, w + 9, w + 10, w + 11, w + 12, 65534, 65535};
        int[] due = {-1, 6, 6, 6, 2, 2, 4, 4, -1, 10, -1, -1, 9};
        for (int i = 0; i < at.length; i++) {
            c.same("wrote(0, " + at[i] + ")", x.wrote(0, at[i]), due[i]);
        }
        x.go(7);
        c.same("below NOW", x.wrote(0, w + 3), 6);
        x.go(6);
        c.same("not from NOW", x.wrote(0, w + 3), 3);
        x.go(3);
        c.same("not from NOW", x.wrote(0, w + 3), -1);
        c.same("below NOW", x.wrote(0, w + 4), 2);
        x.go(2);
        c.same("not from NOW", x.wrote(0, w + 4), -1);
        x.go(0);
        c.same("at 0", x.wrote(0, w + 4), -1);
        TimeMachine first = c.booted("sw sp, -4(sp)\nnop");
        first.run(1);
        c.same("from 0", first.wrote(0, 65532), 0);
        TimeMachine last = c.booted("sw sp, -4(sp)\n1: j 1b\n");
        last.run(60000);
        c.same("far back", last.wrote(0, 65532), 0);
        TimeMachine all = c.booted("1: sw sp, -4(sp)\nj 1b\n");
        all.run(60000);
        c.same("the last tick of all", all.wrote(0, 65532), 59998);
        all.go(0);
        all.cut();
        c.same("behind a cut", all.wrote(0, 65532), -1);
    }

    private static void wroteNothing() {
        c.sentence("promise 21", "-1 without one, for another p or address, or when nothing is booted.");
        TimeMachine x = c.booted("sw sp, -4(sp)\nsb sp, 0(zero)");
        c.same("nothing booted", new TimeMachine().wrote(0, 65532), -1);
        x.run(9);
        c.same("one that trapped", x.wrote(0, 0), -1);
        c.same("one that did", x.wrote(0, 65532), 0);
        for (int p : new int[] {-1, 1, 15, 16, Integer.MIN_VALUE, Integer.MAX_VALUE}) {
            c.same("process " + p, x.wrote(p, 65532), -1);
        }
        for (int at : new int[] {-1, 65536, -4, Integer.MIN_VALUE, Integer.MAX_VALUE, 65532 + 65536}) {
            c.same("address " + at, x.wrote(0, at), -1);
        }
    }

    private static void wroteByCalls() {
        c.sentence("promise 21", "or PIPE or READ");
        Script s = new Script().data(".align 2").data("p: .word 0, 0, 0").data("b: .space 600").data("n: .asciz \"f\"");
        s.add("a: ").call(Script.PIPE, "p").add("d: ").call(Script.WRITE, 3, "b", 512).add("e: ")
                .call(Script.READ, 2, "b", 512).add("f: ");
        s.call(Script.WRITE, 3, "b", 1).add("g: ").call(Script.READ, 2, "b", 5).add("h: ").call(Script.READ, 2, "b", 0)
                .add("i: ");
        s.call(Script.PIPE, 65530).call(Script.READ, 9, "b", 5).call(Script.OPEN, "n", 11).call(Script.READ, 4, "b", 5);
        TimeMachine x = s.stay().booted(c);
        int[] before = new int[7];
        for (int k = 0; k < before.length; k++) {
            if (x.register(0, 32) != x.label(0, k)) {
                c.runTo(x, x.label(0, k));
            }
            before[k] = (int) x.count(0);
        }
        x.run(1000);
        int p = x.label(0, 8);
        int b = x.label(0, 9);
        c.same("PIPE", x.wrote(0, p), before[1] - 1);
        c.same("PIPE", x.wrote(0, p + 7), before[1] - 1);
        c.same("behind its words", x.wrote(0, p + 8), -1);
        c.same("READ of one byte", x.wrote(0, b), before[5] - 1);
        c.same("READ of 512", x.wrote(0, b + 1), before[3] - 1);
        c.same("READ of 512", x.wrote(0, b + 511), before[3] - 1);
        c.same("behind them", x.wrote(0, b + 512), -1);
        c.same("a PIPE that was INVALID", x.wrote(0, 65532), -1);
    }

    private static void wroteByNumber() {
        c.sentence("promise 21", "(whichever process had the number then, with whatever program)");
        // 1 writes and ends; another 1 comes, which writes another byte; then it is another program.
        Script s = new Script().data("k: .space 8").call(Script.FORK).add("bnez a0, 1f\nla t0, k\nsb t0, 0(t0)")
                .call(Script.EXIT, 0);
        s.add("1: ").call(Script.WAIT).call(Script.FORK).add("bnez a0, 2f\nla t0, k\nsb t0, 1(t0)").call(Script.EXEC, 1)
                .add("2: ").stay();
        TimeMachine x = new TimeMachine();
        Checks.assemble(x, 0, s.source());
        Checks.assemble(x, 1, "sb sp, -1(sp)\nli a7, 21\necall");
        x.boot(0);
        x.run(1000);
        int k = x.label(0, 1);
        c.same("the first one", x.wrote(1, k) > 0 ? 1 : 0, 1);
        c.same("the second one", x.wrote(1, k + 1) > x.wrote(1, k) ? 1 : 0, 1);
        c.same("with another program", x.wrote(1, 65535) > x.wrote(1, k + 1) ? 1 : 0, 1);
        c.same("it has no such page now", x.peek(1, k), -1);
        c.same("not the parent's", x.wrote(0, k), -1);
        x.outside(SIGNAL, 1, 9);
        x.run(5);
        c.same("one that has ended", x.wrote(1, 65535) > 0 ? 1 : 0, 1);
        c.same("a page that both had", x.wrote(0, 65535), -1);
    }

    private static void counts() {
        c.sentence("promise 29", "(0 .. 14 are 0, but 2: -1, when nothing is booted.)");
        TimeMachine x = new TimeMachine();
        for (int what = 0; what <= 14; what++) {
            c.same("count(" + what + ")", x.count(what), what == 2 ? -1 : 0);
        }
        Checks.feed(x, "1");
        c.same("the tape", x.count(15), 1);
        x.watch(0);
        Checks.watch(x, 7, "1");
        c.same("breaks", x.count(16), 2);
        c.same("the tape", x.count(15), 0);
        for (int k = 1; k < 7; k++) {
            Checks.watch(x, k, "1");
        }
        c.same("all breaks", x.count(16), 8);
        x.drop(3);
        c.same("one less", x.count(16), 7);
        TimeMachine y = c.booted("nop");
        long[] due = {0, 0, 0, 0, 0, 0, 0, 0, 0, 0, 5, 1, 0, 1, 0, 0, 0};
        for (int what = 0; what < due.length; what++) {
            c.same("booted, count(" + what + ")", y.count(what), due[what]);
        }
        allCounts();
    }

    private static void allCounts() {
        c.sentence("promise 29", "what = 0 NOW, 1 END, 2 the current process (-1), 3 events of the recording, 4 those"
                + " that came up to NOW, 5 events that are scheduled, 6 the CLOCK, 7 random words that wait, 8 bytes"
                + " shown in all, 9 bytes typed that wait, 10 frames in use by spaces, 11"
                + " processes that are not ABSENT, 12 files with names, 13 openings, 14 instructions that were"
                + " retired, 15 the length of the tape,");
        Script s = new Script().data("n: .asciz \"f\"").call(Script.GROW, 7168).call(Script.OPEN, "n", 9)
                .call(Script.OPEN, "n", 9);
        s.call(Script.WRITE, 1, "n", 8).call(Script.FORK).call(Script.FORK).call(Script.FORK).add("1: j 1b");
        TimeMachine x = s.booted(c);
        // At 0 a CLOCK by 99, two words, seven bytes; at 30 a SWITCH to 2, which forks; at 36 a CLOCK; four more beyond.
        c.same("replay", Checks.replay(x, 0, 10, 0x0b, 99, 0x0c, 1, 2, 3, 4, 0x15, 0x79, 1, 2, 3, 4, 5, 6, 7, 0x20, 30,
                0x03, 6, 1, 0x13, 100,
                0x35), 10);
        c.same("run", x.run(40), 40);
        x.go(33);
        Checks.feed(x, "abc");
        long[] due = {33, 40, 2, 6, 5, 4, 99, 2, 8, 7, 11, 5, 1, 3, 25, 3, 0};
        for (int what = 0; what < due.length; what++) {
            c.same("count(" + what + ")", x.count(what), due[what]);
        }
        long[] first = {0, 40, 0, 6, 4, 4, 99, 2, 0, 7, 6, 1, 0, 1, 0, 3, 0};
        x.go(0);
        for (int what = 0; what < first.length; what++) {
            c.same("count(" + what + ") at 0", x.count(what), first[what]);
        }
    }

    private static void otherCounts() {
        c.sentence("promise 29", "16 breaks; -1 for others.");
        TimeMachine none = new TimeMachine();
        TimeMachine x = c.booted(LOOP);
        for (int what : new int[] {-1, 17, 18, Integer.MIN_VALUE, Integer.MAX_VALUE}) {
            c.same("count(" + what + ")", none.count(what), -1);
            c.same("count(" + what + ")", x.count(what), -1);
        }
    }
}
