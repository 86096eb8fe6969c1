/** The boundary cases that the document names of the tape and of a new object: promises 1 to 3, and "THE TAPE". */
public final class EdgeTapeTest {
    private static final Checks c = new Checks();
    private static final int FULL = 32768;

    public static void main(String[] args) {
        newObject();
        fullTape();
        readTape();
        readWithFault();
        refusedCalls();
        order();
        tooLong();
        ends();
        wrongEnds();
        endsOnce();
        endsBehindReading();
        c.finish();
    }

    /** An object whose tape has so many bytes, all of them blanks, and which nothing was fed since an end. */
    private static TimeMachine taped(int length) {
        TimeMachine x = new TimeMachine();
        Checks.feed(x, " ".repeat(length));
        x.end(20);
        return x;
    }

    private static int feed(TimeMachine x) {
        return x.feed(0x20202020, 0x20202020, 0x20202020, 0x20202020, 0x20202020);
    }

    private static void newObject() {
        c.sentence("promise 1", "An empty tape, no programs, no breaks; nothing is booted.");
        TimeMachine x = new TimeMachine();
        c.same("the tape's length", x.count(15), 0);
        c.same("breaks", x.count(16), 0);
        for (int p = 0; p < 4; p++) {
            c.same("the size of program " + p, x.program(p, 2), -1);
        }
        for (int k = 0; k < 8; k++) {
            c.same("break " + k, x.drop(k) ? 1 : 0, 0);
        }
        c.state("run of what is not booted", () -> x.run(0));
        c.same("the current process", x.count(2), -1);
        c.same("processes", x.count(11), 0);
        c.same("bytes of a log before any", x.logByte(0), -1);
        c.same("the empty tape is a text", x.assemble(0), 0);
        c.same("it has no bytes", x.program(0, 2), 0);
    }

    private static void fullTape() {
        c.sentence("the tape", "THE TAPE holds up to 32768 bytes that are fed");
        TimeMachine x = taped(FULL - 20);
        c.same("one byte for the last feed", feed(x), FULL);
        c.same("the tape's length", x.count(15), FULL);
        c.same("one more", feed(x), -1);
        c.same("the tape's length", x.count(15), FULL);
        c.same("all of it is read", x.assemble(0), 0);
        x = taped(FULL - 19);
        c.same("one byte too many", feed(x), -1);
        c.same("the tape's length", x.count(15), FULL - 19);
        TimeMachine last = taped(FULL - 20);
        last.feed(0x20202020, 0x20202020, 0x20202020, 0x20202020, 0x20202001);
        c.same("the last of the bytes counts", last.assemble(0), 1 + 16);
    }

    private static void readTape() {
        c.sentence("the tape", "what reads it makes it empty");
        TimeMachine x = taped(40);
        c.same("assemble", x.assemble(0), 0);
        c.same("behind assemble", x.count(15), 0);
        c.same("the first feed then", feed(x), 20);
        x.end(0);
        c.same("watch", Checks.watch(x, 0, "1"), 0);
        c.same("behind watch", x.count(15), 0);
        c.same("replay", Checks.replay(x, 0, 0), 0);
        c.same("behind replay", x.count(15), 0);
    }

    private static void readWithFault() {
        c.sentence("the terms", "calls that need a tape use it up also when they tell a fault.");
        TimeMachine x = taped(0);
        x.assemble(0);
        c.same("assemble", Checks.assemble(x, 0, "foo"), 2 + 16);
        c.same("behind assemble", x.count(15), 0);
        c.same("watch", Checks.watch(x, 0, "foo"), 2);
        c.same("behind watch", x.count(15), 0);
        c.same("replay", Checks.replay(x, 0, 6, 6), -1 - (1 + 8));
        c.same("behind replay", x.count(15), 0);
    }

    private static void refusedCalls() {
        c.sentence("the terms", "A call that throws changes nothing");
        TimeMachine x = new TimeMachine();
        x.feed(0x6e6f7020, 0x20202020, 0x20202020, 0x20202020, 0x20202020);
        c.argument("assemble(4)", () -> x.assemble(4));
        c.argument("watch(8)", () -> x.watch(8));
        c.argument("replay(4)", () -> x.replay(4));
        c.state("replay(0)", () -> x.replay(0));
        c.state("boot(0)", () -> x.boot(0));
        c.argument("go(0)", () -> x.go(0));
        c.same("the tape stays", x.count(15), 20);
        c.same("what was fed last can still be ended", x.end(3), 3);
        c.same("its bytes stay", x.assemble(0), 0);
        c.same("its bytes stay", x.program(0, 2), 4);
        x.boot(0);
        x.run(1);
        c.argument("run(-1)", () -> x.run(-1));
        c.argument("go(2)", () -> x.go(2));
        c.argument("outside(5, 0, 0)", () -> x.outside(5, 0, 0));
        c.state("boot(1)", () -> x.boot(1));
        c.same("NOW stays", x.count(0), 1);
        c.same("the reason stays", x.reason(), 0);
    }

    private static void order() {
        c.sentence("promise 2", "Appends the four bytes of a, b, c, d and e, the highest first, to the TAPE: how long"
                + " it is");
        TimeMachine x = new TimeMachine();
        // .ascii "abcdefghijk", each byte at its place.
        c.same("twenty bytes", x.feed(0x2e617363, 0x69692022, 0x61626364, 0x65666768, 0x696a6b22), 20);
        c.same("twenty more", x.feed(0x0a2e6279, 0x74652031, 0x20202020, 0x20202020, 0x20202020), 40);
        c.same("assemble", x.assemble(0), 0);
        c.same("bytes", Checks.image(x, 0), "6162636465666768696a6b" + "01");
    }

    private static void tooLong() {
        c.sentence("promise 2", "-1, changing nothing, when it would be longer than 32768.");
        TimeMachine x = taped(FULL - 20);
        c.same("up to the end", feed(x), FULL);
        c.same("refused", x.feed(-1, -1, -1, -1, -1), -1);
        c.same("the twenty bytes that came last are those before", x.end(0), FULL - 20);
        c.same("refused no more", feed(x), FULL);
        c.same("none of the refused bytes is there", x.assemble(0), 0);
        TimeMachine y = taped(FULL - 19);
        c.same("refused", y.feed(-1, -1, -1, -1, -1), -1);
        c.same("it is not fed, so there is nothing to end", y.end(5), -1);
        c.same("length", y.count(15), FULL - 19);
    }

    private static void ends() {
        c.sentence("promise 3", "Of the twenty bytes that came last only the first n count, the others go: how long"
                + " the tape is");
        for (int n = 0; n <= 20; n++) {
            TimeMachine x = new TimeMachine();
            x.feed(0x2e627974, 0x65203120, 0x20202020, 0x20202020, 0x20202020);
            x.feed(0x2c312c31, 0x2c312c31, 0x2c312c31, 0x2c312c31, 0x2c312c31);
            c.same("end(" + n + ")", x.end(n), 20 + n);
            c.same("the tape's length", x.count(15), 20 + n);
            boolean whole = n % 2 == 0;
            c.same("assemble", x.assemble(0), whole ? 0 : 1 + 16);
            c.same("bytes", x.program(0, 2), whole ? 1 + n / 2 : -1);
        }
    }

    private static void wrongEnds() {
        c.sentence("promise 3", "-1, changing nothing, when n is not 0 .. 20");
        for (int n : new int[] {-1, 21, Integer.MIN_VALUE, Integer.MAX_VALUE}) {
            TimeMachine x = new TimeMachine();
            feed(x);
            c.same("end(" + n + ")", x.end(n), -1);
            c.same("the tape stays", x.count(15), 20);
            c.same("what came last can still be ended", x.end(7), 7);
        }
    }

    private static void endsOnce() {
        c.sentence("promise 3", "or nothing was fed since the latest end()");
        TimeMachine x = new TimeMachine();
        c.same("end of nothing", x.end(0), -1);
        c.same("end of nothing", x.end(20), -1);
        feed(x);
        feed(x);
        c.same("end", x.end(20), 40);
        c.same("again", x.end(20), -1);
        c.same("not the twenty before", x.end(3), -1);
        c.same("the tape stays", x.count(15), 40);
        feed(x);
        c.same("end(0)", x.end(0), 40);
        c.same("again", x.end(0), -1);
        feed(x);
        c.same("fed since", x.end(1), 41);
    }

    private static void endsBehindReading() {
        c.sentence("promise 3", "or since the tape was read.");
        TimeMachine x = taped(20);
        x.assemble(0);
        c.same("behind assemble", x.end(5), -1);
        feed(x);
        x.watch(0);
        c.same("behind watch", x.end(5), -1);
        feed(x);
        x.replay(0);
        c.same("behind replay", x.end(5), -1);
        c.same("the tape is empty", x.count(15), 0);
        feed(x);
        c.same("fed since", x.end(5), 5);
    }
}
