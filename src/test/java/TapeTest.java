/** Promises 1 to 3: a new object, and the tape. */
public final class TapeTest {
    public static void main(String[] args) {
        Checks c = new Checks();
        newObject(c);
        feeding(c);
        ending(c);
        c.finish();
    }

    private static void newObject(Checks c) {
        c.about("promise 1");
        TimeMachine x = new TimeMachine();
        for (int what = -1; what <= 17; what++) {
            long due = what < 0 || what > 16 || what == 2 ? -1 : 0;
            c.same("count(" + what + ")", x.count(what), due);
        }
        for (int p = -1; p <= 4; p++) {
            for (int what = 0; what <= 4; what++) {
                c.same("program(" + p + ", " + what + ")", x.program(p, what), -1);
            }
            c.same("image", x.image(p, 0), -1);
            c.same("label", x.label(p, 0), -1);
            c.same("before", x.before(p, 0), -1);
            c.same("line", x.line(p, 0), 0);
        }
        c.same("reason", x.reason(), 0);
        c.same("cut", x.cut(), 0);
        c.same("drop", x.drop(0) ? 1 : 0, 0);
        c.same("logByte", x.logByte(0), -1);
        c.same("event", x.event(0, 0), -1);
        c.same("shown", x.shown(0), -1);
        c.same("wrote", x.wrote(0, 0), -1);
        c.same("register", x.register(0, 2), 0);
        c.same("peek", x.peek(0, 0), -1);
        c.same("text", x.text(0, 0, 0), -1);
        c.same("held", x.held(0, 0, 0), -1);
        c.same("descriptor", x.descriptor(0, 0, 0), 0);
        c.same("descriptor", x.descriptor(0, 0, 1), -1);
        c.argument("go(0)", () -> x.go(0));
        c.state("run(1)", () -> x.run(1));
        c.state("outside", () -> x.outside(3, 1, 0));
        c.state("boot", () -> x.boot(0));
        c.state("replay", () -> x.replay(0));
        c.same("pack", x.pack(), 1);
        c.same("logByte of an empty log", x.logByte(0), 0);
        c.same("logByte behind it", x.logByte(1), -1);
    }

    private static void feeding(Checks c) {
        c.about("promise 2");
        TimeMachine x = new TimeMachine();
        c.same("feed", x.feed(0x64726f70, 0, 0, 0, 0), 20);
        c.same("feed", x.feed(1, 2, 3, 4, 5), 40);
        c.same("count(15)", x.count(15), 40);
        TimeMachine full = new TimeMachine();
        for (int i = 1; i <= 1638; i++) {
            c.same("feed", full.feed(0x20202020, 0x20202020, 0x20202020, 0x20202020, 0x20202020), 20 * i);
        }
        c.same("feed beyond 32768", full.feed(0, 0, 0, 0, 0), -1);
        c.same("count(15)", full.count(15), 32760);
        c.same("end", full.end(12), 32752);
        c.same("feed beyond 32768", full.feed(0, 0, 0, 0, 0), -1);
        c.same("end behind a feed that did nothing", full.end(1), -1);
        // The highest byte comes first: this is an instruction only in that order.
        TimeMachine order = new TimeMachine();
        order.feed(0x6e6f7020, 0x20202020, 0x200a2020, 0x6e6f700a, 0x72657400);
        order.end(19);
        c.same("assemble of what was fed", order.assemble(0), 0);
        c.same("size", order.program(0, 2), 12);
    }

    private static void ending(Checks c) {
        c.about("promise 3");
        TimeMachine x = new TimeMachine();
        c.same("end before a feed", x.end(3), -1);
        x.feed(1, 2, 3, 4, 5);
        c.same("end(-1)", x.end(-1), -1);
        c.same("end(21)", x.end(21), -1);
        c.same("end(20)", x.end(20), 20);
        c.same("end again", x.end(20), -1);
        x.feed(1, 2, 3, 4, 5);
        c.same("end(0)", x.end(0), 20);
        x.feed(1, 2, 3, 4, 5);
        c.same("end(7)", x.end(7), 27);
        c.same("end again", x.end(7), -1);
        x.feed(1, 2, 3, 4, 5);
        c.same("assemble of no text", x.assemble(0), 1 + 16);
        c.same("count(15)", x.count(15), 0);
        c.same("end when the tape was read", x.end(5), -1);
    }
}
