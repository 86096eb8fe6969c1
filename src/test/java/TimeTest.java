import java.util.ArrayList;
import java.util.List;

/** Running and going through counts: promises 13 to 16, 21 and 29. */
public final class TimeTest {
    private static final Checks c = new Checks();
    /** Counts on in a word, and shows a byte each time. */
    private static final String COUNTER = "1: la t0, w\nlw t1, 0(t0)\naddi t1, t1, 1\nsw t1, 0(t0)\nli a0, 1\nmv a1, t0\n"
            + "li a2, 1\nli a7, 7\necall\nj 1b\n.data\nw: .word 0";

    public static void main(String[] args) {
        wrongCalls();
        stops();
        longRun();
        goes();
        events();
        cuts();
        writes();
        writesOfCalls();
        counts();
        everyCount();
        c.finish();
    }

    private static void wrongCalls() {
        c.about("promises 13 and 15, wrong calls");
        TimeMachine x = new TimeMachine();
        c.argument("run(-1)", () -> x.run(-1));
        c.argument("run(60001)", () -> x.run(60001));
        c.state("run(60000)", () -> x.run(60000));
        c.state("run(0)", () -> x.run(0));
        c.argument("go(0)", () -> x.go(0));
        Checks.assemble(x, 0, COUNTER);
        x.boot(0);
        c.argument("run(-1)", () -> x.run(-1));
        c.argument("run(60001)", () -> x.run(60001));
        c.argument("go(1)", () -> x.go(1));
        c.argument("go(-1)", () -> x.go(-1));
        x.go(0);
        c.same("run(0)", x.run(0), 0);
        c.same("reason", x.reason(), 0);
        c.same("run(7)", x.run(7), 7);
        c.argument("go(8)", () -> x.go(8));
        c.same("NOW", x.count(0), 7);
    }

    private static void stops() {
        c.about("promises 13 and 14");
        TimeMachine x = c.booted("li a7, 21\necall\nli a7, 0\necall");
        c.same("all ticks", x.run(1), 1);
        c.same("reason", x.reason(), 0);
        c.same("none is asked behind the last tick", x.run(1), 1);
        c.same("reason", x.reason(), 0);
        c.same("waits", x.run(1), 0);
        c.same("reason", x.reason(), 1);
        c.same("nothing is asked", x.run(0), 0);
        c.same("reason", x.reason(), 0);
        x.outside(4, 1, 0);
        c.same("up to the end", x.run(100), 3);
        c.same("reason", x.reason(), 2);
        c.same("none is left", x.count(11), 0);
        c.same("current", x.count(2), -1);
        c.same("no tick", x.run(5), 0);
        c.same("reason", x.reason(), 2);
        x.boot(0);
        c.same("a reason stays", x.reason(), 2);
        x.run(3);
        x.go(1);
        c.same("a reason stays", x.reason(), 1);
        c.same("up to where it waits", x.run(10), 1);
        c.same("reason", x.reason(), 1);
    }

    private static void longRun() {
        c.about("promise 13, the last count");
        TimeMachine x = c.booted(COUNTER);
        c.same("run", x.run(59999), 59999);
        c.same("run", x.run(60000), 1);
        c.same("reason", x.reason(), 4);
        c.same("run", x.run(3), 0);
        c.same("reason", x.reason(), 4);
        c.same("END", x.count(1), 60000);
        c.same("an event at the last count", x.outside(3, 7, 0), 0);
        c.same("clock", x.count(6), 7);
        long shown = x.count(8);
        int word = Checks.word(x, 0, x.label(0, 0));
        for (int at : new int[] {0, 1, 31, 255, 256, 257, 4095, 4096, 30000, 59999, 12345, 60000, 2}) {
            x.go(at);
            c.same("NOW", x.count(0), at);
            c.same("END", x.count(1), 60000);
            c.same("the word at " + at, Checks.word(x, 0, x.label(0, 0)), (at + 6) / 11);
            c.same("shown at " + at, x.count(8), (at + 1) / 11);
            c.same("retired at " + at, x.count(14), at - (at + 1) / 11);
        }
        x.go(60000);
        c.same("shown", x.count(8), shown);
        c.same("the word", Checks.word(x, 0, x.label(0, 0)), word);
        c.same("clock", x.count(6), 7);
        x.go(100);
        c.same("it goes on", x.run(60000), 59900);
        c.same("reason", x.reason(), 4);
        c.same("cut", x.cut(), 0);
        x.go(50000);
        c.same("cut", x.cut(), 10000);
        c.same("END", x.count(1), 50000);
        c.same("run", x.run(60000), 10000);
    }

    private static void goes() {
        c.about("promise 15");
        TimeMachine x = c.booted("li s0, 1\nli s0, 2\nli s0, 3\nli a7, 1\necall\nli s0, 4\nli a7, 0\necall");
        x.run(100);
        c.same("END", x.count(1), 11);
        int[] due = {0, 1, 2, 3, 3, 3, 4};
        for (int at = due.length - 1; at >= 0; at--) {
            x.go(at);
            c.same("s0 at " + at, x.register(0, 8), due[at]);
            c.same("processes at " + at, x.count(11), at < 5 ? 1 : 2);
            c.same("frames at " + at, x.count(10), 5);
        }
        x.go(11);
        c.same("processes", x.count(11), 0);
        c.same("frames", x.count(10), 0);
    }

    private static void events() {
        c.about("promise 15, events");
        TimeMachine x = c.booted("1: addi s0, s0, 1\nj 1b");
        x.outside(3, 1, 0);
        x.outside(4, 5, 0);
        x.run(4);
        x.outside(3, 10, 0);
        x.outside(3, 100, 0);
        x.run(4);
        x.outside(3, 1000, 0);
        long[] clocks = {1, 1, 1, 1, 111, 111, 111, 111, 1111};
        long[] came = {2, 2, 2, 2, 4, 4, 4, 4, 5};
        for (int at = 8; at >= 0; at--) {
            x.go(at);
            c.same("clock at " + at, x.count(6), clocks[at]);
            c.same("came up to " + at, x.count(4), came[at]);
            c.same("recorded", x.count(3), 5);
            c.same("random words", x.count(7), 1);
        }
        x.go(2);
        c.same("run", x.run(3), 3);
        c.same("clock", x.count(6), 111);
        c.same("run", x.run(10), 10);
        c.same("END", x.count(1), 15);
        c.same("clock", x.count(6), 1111);
    }

    private static void cuts() {
        c.about("promise 16");
        TimeMachine x = c.booted("1: addi s0, s0, 1\nj 1b");
        x.run(4);
        x.outside(3, 10, 0);
        x.run(4);
        x.outside(3, 100, 0);
        x.go(4);
        c.same("cut", x.cut(), 4);
        c.same("END", x.count(1), 4);
        c.same("recorded", x.count(3), 1);
        c.same("clock", x.count(6), 10);
        c.argument("go(5)", () -> x.go(5));
        c.same("an event comes again", x.outside(3, 5, 0), 0);
        x.run(4);
        c.same("clock", x.count(6), 15);
        x.go(3);
        c.same("cut", x.cut(), 1 + 4);
        c.same("recorded", x.count(3), 0);
        c.same("clock", x.count(6), 0);
        c.same("cut again", x.cut(), 0);
        x.go(0);
        c.same("cut all", x.cut(), 3);
        c.same("END", x.count(1), 0);
        x.run(600);
        x.go(300);
        x.cut();
        x.outside(4, 9, 0);
        x.run(300);
        x.go(299);
        c.same("no random word", x.count(7), 0);
        x.go(300);
        c.same("a random word", x.count(7), 1);
        x.go(599);
        c.same("still", x.count(7), 1);
        c.same("register", x.register(0, 8), 300);
    }

    private static void writes() {
        c.about("promise 21");
        TimeMachine x = c.booted("la t0, w\nsw t0, 0(t0)\nsb t0, 1(t0)\nsh t0, 6(t0)\nlr.w t1, (t0)\nsc.w t2, t1, (t0)\n"
                + "sc.w t2, t1, (t0)\namoadd.w t2, t1, (t0)\nsb t0, -1(sp)\nlw t1, 0(t0)\nsw t0, 0(zero)\n.data\nw: .word 0, 0");
        x.run(100);
        c.same("END", x.count(1), 12);
        int w = x.label(0, 0);
        c.same("atomic", x.wrote(0, w), 8);
        c.same("atomic", x.wrote(0, w + 3), 8);
        c.same("not written", x.wrote(0, w + 4), -1);
        c.same("half", x.wrote(0, w + 6), 4);
        c.same("half", x.wrote(0, w + 7), 4);
        c.same("behind", x.wrote(0, w + 8), -1);
        c.same("stack", x.wrote(0, 65535), 9);
        c.same("one that trapped", x.wrote(0, 0), -1);
        x.go(9);
        c.same("not yet", x.wrote(0, 65535), -1);
        c.same("atomic", x.wrote(0, w), 8);
        x.go(8);
        c.same("conditional", x.wrote(0, w), 6);
        x.go(6);
        c.same("byte", x.wrote(0, w + 1), 3);
        c.same("word", x.wrote(0, w), 2);
        x.go(3);
        c.same("word", x.wrote(0, w + 1), 2);
        x.go(2);
        c.same("nothing", x.wrote(0, w), -1);
        x.go(12);
        c.same("another process", x.wrote(1, w), -1);
        c.same("no process", x.wrote(16, w), -1);
        c.same("no process", x.wrote(-1, w), -1);
        c.same("no address", x.wrote(0, -1), -1);
        c.same("no address", x.wrote(0, 65536), -1);
        x.boot(0);
        c.same("booted anew", x.wrote(0, w), -1);
        x = c.booted("sw sp, -4(sp)\nnop");
        x.run(2);
        c.same("the first tick", x.wrote(0, 65532), 0);
    }

    private static void writesOfCalls() {
        c.about("promise 21, calls");
        Script s = new Script().data("p: .word 0, 0").data("m: .ascii \"abc\"").data("b: .space 20");
        s.call(Script.PIPE, "p").call(Script.WRITE, 3, "m", 3).call(Script.READ, 2, "b", 20).call(Script.FORK);
        s.add("beqz a0, 1f").call(Script.WAIT).stay();
        s.add("1: la t0, b\nsb t0, 1(t0)").call(Script.EXIT, 0);
        TimeMachine x = s.booted(c);
        x.run(1000);
        int p = x.label(0, 1);
        int b = x.label(0, 3);
        c.same("PIPE", x.wrote(0, p), 3);
        c.same("PIPE", x.wrote(0, p + 7), 3);
        c.same("READ", x.wrote(0, b), 15);
        c.same("READ", x.wrote(0, b + 2), 15);
        c.same("only what came", x.wrote(0, b + 3), -1);
        c.same("a process that is absent now", x.process(1, 0), 0);
        c.same("its store", x.wrote(1, b + 1), 24);
        c.same("not its parent's", x.wrote(0, b + 1), 15);
    }

    private static void counts() {
        c.about("promise 29");
        TimeMachine x = c.booted("li a7, 4\necall\nli a7, 1\necall\nli a7, 21\necall");
        Checks.feed(x, "abc");
        x.run(4);
        x.outside(1, 0x6162, 2);
        x.outside(4, 1, 0);
        x.outside(3, 9, 0);
        long[] due = {4, 4, 0, 3, 3, 0, 9, 1, 0, 2, 5, 2, 0, 1, 2, 3, 0};
        for (int what = 0; what < due.length; what++) {
            c.same("count(" + what + ")", x.count(what), due[what]);
        }
        c.same("count(-1)", x.count(-1), -1);
        c.same("count(17)", x.count(17), -1);
        x.go(0);
        long[] first = {0, 4, 0, 3, 0, 0, 0, 0, 0, 0, 5, 1, 0, 1, 0, 3, 0};
        for (int what = 0; what < first.length; what++) {
            c.same("count(" + what + ")", x.count(what), first[what]);
        }
    }

    /** Every count shows the machine as it was when it was first there, whichever way it is gone to. */
    private static void everyCount() {
        c.about("promise 15, every count");
        Script s = new Script().data("p: .word 0, 0").data("n: .asciz \"f\"").data("b: .space 20");
        s.call(Script.PIPE, "p").call(Script.HANDLER, 3, "h").call(Script.FORK).add("beqz a0, 2f");
        s.add("1: ").call(Script.READ, 2, "b", 7).call(Script.WRITE, 1, "b", 7).call(Script.OPEN, "n", 15);
        s.call(Script.WRITE, "a0", "b", 3).call(Script.SLEEP, 2).add("j 1b");
        s.add("2: ").call(Script.FORK).call(Script.READ, 0, "b", 3).call(Script.WRITE, 3, "b", 3).call(Script.RANDOM);
        s.call(Script.UNLINK, "n").call(Script.YIELD).add("j 2b");
        s.add("h: la t0, p\nlw t1, 0(t0)\naddi t1, t1, 0\nsw t1, 0(t0)").call(Script.BACK);
        TimeMachine x = s.booted(c);
        List<List<Long>> was = new ArrayList<>();
        was.add(TimeSeen.of(x));
        for (int i = 1; i <= 900; i++) {
            x.run(1);
            if (i % 7 == 0) {
                x.outside(1, 0x61626364L + i, 3);
            }
            if (i % 11 == 0) {
                x.outside(3, 1, 0);
            }
            if (i % 13 == 0) {
                x.outside(4, i, 0);
            }
            if (i % 29 == 0) {
                x.outside(2, i % 2, 3);
            }
            if (i % 5 == 0) {
                x.outside(0, i % 4, 0);
            }
            if (x.count(0) == was.size()) {
                was.add(TimeSeen.of(x));
            } else {
                was.set((int) x.count(0), TimeSeen.of(x));
            }
        }
        int end = (int) x.count(1);
        c.same("ticks were made", end > 500 ? 1 : 0, 1);
        for (int i = 0; i < 300; i++) {
            int at = (int) (i * 7919L % (end + 1));
            x.go(at);
            c.same("what is seen at " + at, TimeSeen.of(x).equals(was.get(at)) ? 1 : 0, 1);
            if (i % 3 == 0 && at < end) {
                int more = Math.min(end - at, i % 50);
                c.same("run on", x.run(more), more);
                c.same("what is seen then", TimeSeen.of(x).equals(was.get(at + more)) ? 1 : 0, 1);
            }
        }
    }
}
