/** Booting, processes, ticks, signals and the calls that are not of open things: promises 10, 12, 22 to 24 and 29. */
public final class KernelTest {
    private static final Checks c = new Checks();
    private static final Crowd crowd = new Crowd(c);
    private static final int INVALID = -22;
    private static final int MISSING = -2;
    private static final int FULL = -4;
    private static final int NONE = -10;

    public static void main(String[] args) {
        wrongBoots();
        booted();
        spaces();
        forks();
        waits();
        waitsForZero();
        orphans();
        execs();
        ring();
        yields();
        heap();
        handlers();
        pendingSignals();
        nestedSignals();
        trapsWithHandlers();
        sleeping();
        clockAndRandom();
        unknownCalls();
        sharedFrames();
        noFrames();
        noFramesForCalls();
        lastFrames();
        manyProcesses();
        sixteenAlike();
        outsideEvents();
        endedOnes();
        c.finish();
    }

    private static void wrongBoots() {
        c.about("promise 10");
        TimeMachine x = new TimeMachine();
        c.argument("boot(-1)", () -> x.boot(-1));
        c.argument("boot(4)", () -> x.boot(4));
        c.state("boot(0)", () -> x.boot(0));
        Checks.assemble(x, 1, "nop");
        c.state("boot(0)", () -> x.boot(0));
        c.same("nothing is booted", x.count(11), 0);
        x.boot(1);
        c.same("processes", x.count(11), 1);
        x.run(1);
        x.outside(3, 5, 0);
        c.state("boot(0)", () -> x.boot(0));
        c.argument("boot(4)", () -> x.boot(4));
        c.same("it goes on", x.count(0), 1);
        x.pack();
        Checks.watch(x, 3, "0");
        x.boot(1);
        for (int what : new int[] {0, 1, 3, 4, 5, 6}) {
            c.same("count(" + what + ")", x.count(what), 0);
        }
        c.same("the log stays", x.logByte(0), 1);
        c.same("the breaks stay", x.count(16), 1);
    }

    private static void booted() {
        c.about("promises 22 to 24, a booted machine");
        TimeMachine x = c.booted("a: nop\n.data\n.byte 1, 2, 3");
        for (int r = 0; r <= 33; r++) {
            c.same("register " + r, x.register(0, r), r == 2 ? 65536 : 0);
        }
        c.same("register -1", x.register(0, -1), 0);
        int[] due = {1, -1, 0, 0, 0, 6, 2048, -1, -1};
        for (int what = 0; what < due.length; what++) {
            c.same("process(0, " + what + ")", x.process(0, what), due[what]);
        }
        int[] absent = {0, -1, 0, 0, 0, 0, 0, -1, -1};
        for (int what = 0; what < absent.length; what++) {
            c.same("process(1, " + what + ")", x.process(1, what), absent[what]);
            c.same("process(16, " + what + ")", x.process(16, what), absent[what]);
            c.same("process(-1, " + what + ")", x.process(-1, what), absent[what]);
        }
        c.same("process(0, -1)", x.process(0, -1), -1);
        c.same("register of an absent one", x.register(1, 2), 0);
        c.same("register of no one", x.register(16, 2), 0);
        c.same("current", x.count(2), 0);
        c.same("frames", x.count(10), 6);
        c.same("peek of text", x.peek(0, 0), 0x13);
        c.same("peek behind text", x.peek(0, 1023), 0);
        c.same("peek of data", x.peek(0, 1026), 3);
        c.same("peek behind data", x.peek(0, 2047), 0);
        c.same("peek of no page", x.peek(0, 2048), -1);
        c.same("peek of the stack", x.peek(0, 61440), 0);
        c.same("peek below the stack", x.peek(0, 61439), -1);
        c.same("peek of the last byte", x.peek(0, 65535), 0);
        c.same("peek above all", x.peek(0, 65536), -1);
        c.same("peek below 0", x.peek(0, -1), -1);
        c.same("peek of an absent one", x.peek(1, 0), -1);
        c.same("peek of no one", x.peek(16, 0), -1);
    }

    private static void spaces() {
        c.about("the space of a program");
        TimeMachine x = c.booted("");
        c.same("no text: pages", x.process(0, 5), 4);
        c.same("heap", x.process(0, 6), 0);
        x.run(1);
        c.same("nothing to carry out", x.process(0, 0), 0);
        x = c.booted(".data\nnop");
        c.same("only data: pages", x.process(0, 5), 5);
        c.same("text of data", x.text(0, 0, 0), -1);
        x = c.booted(".space 1024");
        c.same("one page of text", x.process(0, 5), 5);
        c.same("heap", x.process(0, 6), 1024);
        x = c.booted(".space 1025\n.data\n.space 1025");
        c.same("two of text, two of data", x.process(0, 5), 8);
        c.same("heap", x.process(0, 6), 4096);
        x = c.booted(".space 32768");
        c.same("the largest", x.process(0, 5), 36);
        c.same("heap", x.process(0, 6), 32768);
    }

    private static void forks() {
        c.about("FORK");
        Script s = new Script().data("w: .word 5").add("li s5, 77\nla t0, w\nli t1, 6\nsw t1, 0(t0)");
        s.kept(Script.FORK);
        s.kept(Script.SELF);
        s.stay();
        TimeMachine x = s.booted(c);
        x.run(7);
        c.same("the child is ready", x.process(1, 0), 1);
        c.same("its parent", x.process(1, 1), 0);
        c.same("its register", x.register(1, 21), 77);
        c.same("its place", x.register(1, 32), x.register(0, 32));
        c.same("its answer", x.register(1, 10), 0);
        c.same("its heap", x.process(1, 6), 2048);
        c.same("its pages", x.process(1, 5), 6);
        c.same("frames", x.count(10), 6);
        c.same("its bytes", x.peek(1, x.label(0, 1)), 6);
        c.same("its console", x.descriptor(1, 1, 1), 4);
        x.run(100);
        c.answers("the parent", x, 0, 0, 1, 0);
        c.answers("the child", x, 1, 0, 0, 1);
        c.same("frames, as both wrote", x.count(10), 7);
    }

    private static void waits() {
        c.about("WAIT and EXIT");
        Script s = new Script();
        s.kept(Script.WAIT);
        s.call(Script.FORK).add("beqz a0, 1f").call(Script.FORK).add("beqz a0, 2f");
        s.kept(Script.WAIT);
        s.kept(Script.WAIT);
        s.kept(Script.WAIT);
        s.stay();
        s.add("1: ").call(Script.YIELD).call(Script.YIELD).call(Script.YIELD).call(Script.YIELD).call(Script.EXIT, 0x1234);
        s.add("2: ").call(Script.EXIT, 7);
        TimeMachine x = s.booted(c);
        x.run(1000);
        c.answers("answers", x, 0, 0, NONE, 2 + 256 * 7, 1 + 256 * 0x34, NONE);
        c.same("processes", x.count(11), 1);
        c.same("waiting for a random word", x.process(0, 7), 21);
    }

    private static void waitsForZero() {
        c.about("WAIT for process 0");
        // 0 ends; 1 forks, and the least absent one is 0.
        Script s = new Script().call(Script.FORK).add("bnez a0, 1f").call(Script.FORK).call(Script.SELF).add("beqz a0, 2f");
        s.kept(Script.WAIT);
        s.kept(Script.WAIT);
        s.stay().add("1: ").call(Script.EXIT, 3).add("2: ").call(Script.SLEEP, 5).call(Script.EXIT, 4);
        TimeMachine x = s.booted(c);
        x.run(1000);
        c.same("0 is a child of 1", x.process(0, 1), 1);
        c.same("1 waits for it", x.process(1, 7), 3);
        x.outside(3, 5, 0);
        x.run(1000);
        c.answers("answers", x, 1, 0, 256 * 4, NONE);
        c.same("0 is absent", x.process(0, 0), 0);
    }

    private static void orphans() {
        c.about("children whose parent ends");
        // 0 forks 1; 1 forks 2 and 3; 2 ends, 3 sleeps, 1 ends: 2 is absent, 3 has no parent.
        Script s = new Script();
        s.call(Script.FORK).add("bnez a0, 9f").call(Script.FORK).add("beqz a0, 2f").call(Script.FORK).add("beqz a0, 3f");
        s.call(Script.SLEEP, 5).call(Script.EXIT, 1);
        s.add("2: ").call(Script.EXIT, 2).add("3: ").call(Script.SLEEP, 10).call(Script.EXIT, 3).add("9: ").stay();
        TimeMachine x = s.booted(c);
        x.run(1000);
        c.same("2 has ended", x.process(2, 0), 3);
        c.same("its code", x.process(2, 2), 2);
        c.same("its parent", x.process(2, 1), 1);
        c.same("3's parent", x.process(3, 1), 1);
        x.outside(3, 5, 0);
        x.run(1000);
        c.same("1 has ended", x.process(1, 0), 3);
        c.same("2 is absent", x.process(2, 0), 0);
        c.same("3 has no parent", x.process(3, 1), -1);
        c.same("processes", x.count(11), 3);
        x.outside(3, 5, 0);
        x.run(1000);
        c.same("3 is absent", x.process(3, 0), 0);
        c.same("processes", x.count(11), 2);
    }

    private static void execs() {
        c.about("EXEC");
        Script s = new Script().data("p: .word 0, 0");
        s.call(Script.PIPE, "p").call(Script.HANDLER, 3, 100).call(Script.GROW, 8192);
        s.kept(Script.EXEC, 4);
        s.kept(Script.EXEC, -1);
        s.kept(Script.EXEC, 2);
        s.add("li s0, 55").call(Script.EXEC, 1);
        TimeMachine x = new TimeMachine();
        Checks.assemble(x, 0, s.source());
        Checks.assemble(x, 1, "li s1, 3\nli a7, 17\nli a0, 3\nli a1, 0\necall\nmv s2, a0\nli a7, 18\necall\nli a7, 21\necall");
        x.boot(0);
        Checks.assemble(x, 1, "ebreak");
        Checks.assemble(x, 2, "ebreak");
        x.run(30);
        c.same("pages", x.process(0, 5), 12);
        c.answers("answers", x, 0, 0, MISSING, MISSING);
        x.run(1000);
        c.same("waits", x.process(0, 7), 21);
        c.same("pages", x.process(0, 5), 5);
        c.same("frames", x.count(10), 5);
        c.same("heap", x.process(0, 6), 1024);
        c.same("a register as when booting", x.register(0, 8), 0);
        c.same("the stack", x.register(0, 2), 65536);
        c.same("no handler", x.register(0, 18), 0);
        c.same("BACK within none", x.register(0, 10), INVALID);
        c.same("descriptors stay", x.descriptor(0, 2, 0), 1);
    }

    private static void ring() {
        c.about("the current process");
        // Three children; each waits for its clock.
        Script s = new Script().call(Script.FORK).call(Script.FORK).call(Script.SLEEP, 5).add("1: j 1b");
        TimeMachine x = s.booted(c);
        c.same("at first", x.count(2), 0);
        x.run(2);
        c.same("the forking one stays", x.count(2), 0);
        x.run(2);
        c.same("0 goes on", x.count(2), 0);
        c.same("processes", x.count(11), 3);
        x.run(3);
        c.same("the next one behind", x.count(2), 1);
        x.run(2);
        c.same("a child's child", x.count(11), 4);
        x.run(3);
        c.same("the next one behind", x.count(2), 2);
        x.run(1000);
        c.same("none", x.count(2), -1);
        c.same("all wait", x.reason(), 1);
        x.outside(2, 1, 9);
        c.same("a signal makes it ready, and current", x.count(2), 1);
        x.run(1);
        c.same("ended", x.process(1, 0), 3);
        c.same("none", x.count(2), -1);
        x.outside(3, 5, 0);
        c.same("the next ready one behind the last", x.count(2), 2);
        c.same("all are ready", x.process(0, 0) + x.process(2, 0) + x.process(3, 0), 3);
        c.same("switched", x.outside(0, 0, 0), 0);
        c.same("switched", x.count(2), 0);
        x.run(3);
        c.same("it stays", x.count(2), 0);
    }

    private static void yields() {
        c.about("YIELD");
        Script s = new Script();
        s.kept(Script.YIELD);
        s.call(Script.FORK).call(Script.YIELD).add("1: ").call(Script.YIELD).add("j 1b");
        TimeMachine x = s.booted(c);
        x.run(2);
        c.same("itself", x.count(2), 0);
        x.run(5);
        c.same("before", x.count(2), 0);
        x.run(2);
        c.same("the other one", x.count(2), 1);
        x.run(2);
        c.same("and back", x.count(2), 0);
        c.answers("answers 0", x, 0, 0, 0);
        c.same("place", x.register(0, 32), x.register(1, 32));
    }

    private static void heap() {
        c.about("GROW");
        Script s = new Script().data("w: .word 5");
        s.kept(Script.GROW, 2047);
        s.kept(Script.GROW, 2048);
        s.kept(Script.GROW, 2049);
        s.add("li t0, 3071\nli t1, 9\nsb t1, 0(t0)");
        s.kept(Script.GROW, 60417);
        s.kept(Script.GROW, -1);
        s.kept(Script.GROW, 60416);
        s.add("li t0, 60415\nsb t1, 0(t0)");
        s.kept(Script.GROW, 2050);
        s.add("li t0, 3071\nlbu s2, 0(t0)");
        s.kept(Script.GROW, 2048);
        s.kept(Script.GROW, 3072);
        s.add("li t0, 3071\nlbu s3, 0(t0)");
        TimeMachine x = s.stay().booted(c);
        x.run(7);
        c.same("pages", x.process(0, 5), 6);
        x.run(16);
        c.same("pages", x.process(0, 5), 7);
        c.same("heap ends", x.process(0, 6), 2049);
        x.run(20);
        c.same("pages", x.process(0, 5), 7 + 56);
        c.same("frames", x.count(10), 7 + 56);
        c.same("no page above the heap", x.peek(0, 60416), -1);
        x.run(1000);
        c.answers("answers", x, 0, 0, INVALID, 2048, 2048, INVALID, INVALID, 2049, 60416, 2050, 2048);
        c.same("a page that stays", x.register(0, 18), 9);
        c.same("a page that is new", x.register(0, 19), 0);
        c.same("heap ends", x.process(0, 6), 3072);
        c.same("pages", x.process(0, 5), 7);
    }

    private static void handlers() {
        c.about("HANDLER and SIGNAL");
        Script s = new Script();
        s.kept(Script.HANDLER, 0, 8);
        s.kept(Script.HANDLER, 16, 8);
        s.kept(Script.HANDLER, 9, 8);
        s.kept(Script.HANDLER, -1, 8);
        s.kept(Script.HANDLER, 3, 8);
        s.kept(Script.HANDLER, 3, 12);
        s.kept(Script.HANDLER, 3, 0);
        s.kept(Script.SIGNAL, 0, 0);
        s.kept(Script.SIGNAL, 0, 16);
        s.kept(Script.SIGNAL, 16, 3);
        s.kept(Script.SIGNAL, -1, 3);
        s.kept(Script.SIGNAL, 1, 3);
        s.kept(Script.SIGNAL, 16, 16);
        s.kept(Script.BACK);
        TimeMachine x = s.stay().booted(c);
        x.run(1000);
        c.answers("answers", x, 0, 0, INVALID, INVALID, INVALID, INVALID, 0, 8, 12, INVALID, INVALID, INVALID, INVALID, NONE,
                INVALID, INVALID);
    }

    private static void pendingSignals() {
        c.about("signals that are taken");
        Script s = new Script().call(Script.HANDLER, 3, "h").call(Script.HANDLER, 5, "h").add("li s0, 1\nli s1, 40");
        s.call(Script.SIGNAL, 0, 5).add("addi s1, s1, 1").stay();
        s.add("h: mv s0, a0\nli s5, 0\naddi s1, s1, 10\nli a7, 18\necall");
        TimeMachine x = s.booted(c);
        x.run(16);
        c.same("pending", x.process(0, 3), 1 << 5);
        c.same("answered 0", x.register(0, 10), 0);
        int place = x.register(0, 32);
        long retired = x.count(14);
        x.outside(2, 0, 3);
        c.same("both pending", x.process(0, 3), 1 << 5 | 1 << 3);
        x.run(1);
        c.same("the least first", x.process(0, 3), 1 << 5);
        c.same("the signal", x.register(0, 10), 3);
        c.same("within", x.process(0, 4), 1);
        c.same("at the handler", x.register(0, 32), x.label(0, 0));
        c.same("nothing is retired", x.count(14), retired);
        x.run(1);
        c.same("the handler runs", x.register(0, 8), 3);
        c.same("the other one stays pending", x.process(0, 3), 1 << 5);
        x.run(4);
        c.same("back", x.register(0, 32), place);
        c.same("registers as they were saved", x.register(0, 8) * 100 + x.register(0, 9), 140);
        c.same("within none", x.process(0, 4), 0);
        x.run(1);
        c.same("then the other one", x.register(0, 10), 5);
        c.same("nothing pending", x.process(0, 3), 0);
        x.run(100);
        c.same("at last it waits", x.process(0, 7), 21);
        c.same("nothing of the handler stays", x.register(0, 9), 41);
        x.outside(2, 0, 5);
        c.same("ready by a signal", x.process(0, 0), 1);
        x.run(6);
        c.same("back", x.process(0, 0), 1);
        x.run(1);
        c.same("the call is made anew", x.process(0, 7), 21);
        x.outside(2, 0, 4);
        x.run(1);
        c.same("without a handler it ends", x.process(0, 0), 0);
        c.same("none is left", x.count(11), 0);
    }

    private static void nestedSignals() {
        c.about("signals within a handler");
        Script t = new Script().call(Script.FORK).add("beqz a0, 1f");
        t.kept(Script.WAIT);
        t.stay().add("1: ").call(Script.HANDLER, 3, "h").call(Script.SIGNAL, 1, 3).add("h: ").call(Script.SLEEP, 9);
        t.add("ebreak");
        TimeMachine x = t.booted(c);
        x.run(1000);
        c.same("within", x.process(1, 4), 1);
        c.same("waits", x.process(1, 7), 19);
        x.outside(2, 1, 3);
        c.same("a signal that can't be taken", x.process(1, 0), 2);
        c.same("is pending", x.process(1, 3), 8);
        x.run(5);
        c.same("nothing runs", x.reason(), 1);
        x.outside(2, 1, 9);
        c.same("9 can be", x.process(1, 0), 1);
        x.run(1);
        c.same("it ends", x.process(1, 0), 3);
        c.same("its code", x.process(1, 2), 128 + 9);
        x.run(1000);
        c.answers("the parent", x, 0, 0, 1 + 256 * (128 + 9));
        TimeMachine y = t.booted(c);
        y.run(1000);
        y.outside(3, 9, 0);
        y.run(2);
        c.same("a trap within a handler ends it", y.process(1, 2), 128 + 5);
    }

    private static void trapsWithHandlers() {
        c.about("traps that a handler takes");
        Script s = new Script();
        for (int signal : new int[] {4, 5, 7, 11}) {
            s.call(Script.HANDLER, signal, "h");
        }
        s.add("li s0, 0\n.half 0\nb: ebreak\nlw s1, 1(zero)\nlw s1, -4(zero)\nsw s1, 0(zero)\nli s1, 3").stay();
        s.add("h: slli s0, s0, 4\nor s0, s0, a0\nli a7, 18\nmv s3, a0\nli t0, 5\nbeq a0, t0, 1f\necall\n1: li a7, 21\necall");
        TimeMachine x = s.booted(c);
        x.run(21);
        c.same("ILLEGAL is next", Checks.text(x, 0, x.register(0, 32)), ".half 0");
        long retired = x.count(14);
        int place = x.register(0, 32);
        x.run(1);
        c.same("taken at once", x.register(0, 10), 4);
        c.same("at the handler", x.register(0, 32), x.label(0, 1));
        c.same("not retired", x.count(14), retired);
        c.same("never pending", x.process(0, 3), 0);
        x.run(7);
        c.same("back at the place that trapped", x.register(0, 32), place);
        x.run(8);
        c.same("and again", x.register(0, 32), place);
    }

    private static void sleeping() {
        c.about("SLEEP");
        Script s = new Script();
        s.kept(Script.SLEEP, 0);
        s.kept(Script.SLEEP, 10);
        s.kept(Script.SLEEP, -1);
        s.stay();
        TimeMachine x = s.booted(c);
        x.run(1000);
        c.same("0 does not wait, 10 does", x.process(0, 7), 19);
        x.outside(3, 9, 0);
        c.same("not yet", x.process(0, 0), 2);
        x.outside(3, 1, 0);
        c.same("now", x.process(0, 0), 1);
        x.run(1000);
        c.answers("answers", x, 0, 0, 0, 0);
        c.same("unsigned", x.process(0, 7), 19);
        x.outside(3, 0xfffffffeL, 0);
        c.same("not yet", x.process(0, 0), 2);
        x.outside(3, 1, 0);
        c.same("now", x.process(0, 0), 1);
        x.run(1000);
        c.same("all are over", x.process(0, 7), 21);
        Script t = new Script().call(Script.HANDLER, 3, "h").call(Script.SLEEP, 10).add("li s0, 1").call(Script.SLEEP, 10);
        t.add("li s0, 2").stay().add("h: ").call(Script.BACK);
        x = t.booted(c);
        x.run(1000);
        x.outside(3, 6, 0);
        x.outside(2, 0, 3);
        x.run(1000);
        c.same("it sleeps on behind a signal", x.process(0, 7), 19);
        x.outside(3, 4, 0);
        x.run(1000);
        c.same("towards what it slept towards", x.register(0, 8), 1);
        x.outside(3, 9, 0);
        x.run(1000);
        c.same("then anew", x.register(0, 8), 1);
        x.outside(3, 1, 0);
        x.run(1000);
        c.same("then anew", x.register(0, 8), 2);
    }

    private static void clockAndRandom() {
        c.about("CLOCK and RANDOM");
        Script s = new Script();
        s.kept(Script.CLOCK);
        s.add("mv s0, a1");
        s.kept(Script.RANDOM);
        s.kept(Script.RANDOM);
        s.stay();
        TimeMachine x = s.booted(c);
        x.outside(3, (5L << 32) + 0xfffffff0L, 0);
        c.same("the clock", x.count(6), (5L << 32) + 0xfffffff0L);
        x.run(1000);
        c.same("waits", x.process(0, 7), 21);
        c.same("the upper half", x.register(0, 8), 5);
        c.same("random", x.outside(4, 0x1234ffffffffL, 9), 0);
        c.same("random", x.outside(4, 17, 0), 0);
        c.same("wait", x.count(7), 2);
        x.run(1000);
        c.answers("answers", x, 0, 0, 0xfffffff0, -1, 17);
        c.same("none wait", x.count(7), 0);
        TimeMachine y = c.booted("1: j 1b");
        for (int i = 0; i < 16; i++) {
            c.same("random", y.outside(4, i, 0), 0);
        }
        c.same("the seventeenth", y.outside(4, 16, 0), 1);
        c.same("wait", y.count(7), 16);
    }

    private static void unknownCalls() {
        c.about("other calls");
        Script s = new Script();
        s.kept(22);
        s.kept(-1);
        s.kept(1 << 20);
        TimeMachine x = s.stay().booted(c);
        x.run(1000);
        c.answers("answers", x, 0, 0, -38, -38, -38);
    }

    private static void sharedFrames() {
        c.about("frames of pages that are copies");
        Script s = new Script().data("w: .word 5").data(".space 2000").data("v: .word 6");
        s.call(Script.FORK).add("la t0, w\nla t1, v\nli t2, 9\nbeqz a0, 1f").call(Script.YIELD).add("sw t2, 0(t0)");
        s.call(Script.YIELD).add("sw t2, 0(t1)").stay();
        s.add("1: sw t2, 0(t1)").call(Script.YIELD).call(Script.EXIT, 0);
        TimeMachine x = s.booted(c);
        x.run(2);
        c.same("shared", x.count(10), 7);
        c.same("pages", x.process(0, 5) + x.process(1, 5), 14);
        x.run(8);
        x.run(7);
        c.same("the child has its own", x.count(10), 8);
        c.same("its byte", x.peek(1, x.label(0, 2)), 9);
        c.same("the parent's", x.peek(0, x.label(0, 2)), 6);
        x.run(3);
        c.same("the parent writes another page", x.count(10), 9);
        c.same("the child's", x.peek(1, x.label(0, 1)), 5);
        c.same("the parent's", x.peek(0, x.label(0, 1)), 9);
        x.run(100);
        c.same("what one has alone is written in place", x.count(10), 7);
        c.same("the child has ended", x.process(1, 0), 3);
        c.same("its pages", x.process(1, 5), 0);
    }

    private static void noFrames() {
        c.about("no frame is free");
        // 0 takes 63 pages; three children take all of theirs but text: 63 + 3 * 62 = 249. A fork more shares all.
        Script s = new Script().data("w: .word 5");
        s.call(Script.GROW, 60416).add("li s4, 4\n1: ").call(Script.FORK).add("beqz a0, 2f\naddi s4, s4, -1\nbnez s4, 1b");
        s.call(Script.WAIT).add("mv s5, a0").stay();
        s.add("2: li t0, 1024\nli t2, 60416\n3: sb t0, 0(t0)\naddi t0, t0, 1024\nbne t0, t2, 3b");
        s.add("li t0, 61440\nli t2, 65536\n4: sb t0, 0(t0)\naddi t0, t0, 1024\nbne t0, t2, 4b").stay();
        TimeMachine x = s.booted(c);
        x.run(60000);
        c.same("frames", x.count(10), 63 + 3 * 62);
        c.same("the fourth child found none", x.register(0, 21), 4 + 256 * (128 + 7));
        c.same("it is gone", x.process(4, 0), 0);
    }

    private static void noFramesForCalls() {
        c.about("no frame is free for a call");
        // 0 and three children take 249 frames; the fourth takes 7 more, and then tries calls on pages that are shared.
        Script s = new Script().data("w: .word 5").data("p: .word 0, 0").data("b: .space 2000");
        s.call(Script.PIPE, "p").call(Script.WRITE, 3, "w", 8);
        s.call(Script.GROW, 60416).add("li s4, 4\n1: ").call(Script.FORK).add("beqz a0, 2f\naddi s4, s4, -1\nbnez s4, 1b");
        s.call(Script.WAIT).add("mv s5, a0").stay();
        s.add("2: li t3, 1\nbeq s4, t3, 5f");
        s.add("li t0, 1024\nli t2, 60416\n3: sb t0, 0(t0)\naddi t0, t0, 1024\nbne t0, t2, 3b");
        s.add("li t0, 61440\nli t2, 65536\n4: sb t0, 0(t0)\naddi t0, t0, 1024\nbne t0, t2, 4b").stay();
        s.add("5: ").call(Script.HANDLER, 7, "h").add("li t0, 8192\nli t2, 15360\n6: sb t0, 0(t0)\naddi t0, t0, 1024");
        s.add("bne t0, t2, 6b\nli s6, 0").call(Script.READ, 2, "b", 0).add("mv s8, a0").call(Script.EXEC, 0);
        s.add("mv s9, a0").call(Script.GROW, 60416).add("mv s10, a0").call(Script.READ, 2, "b", 8);
        s.add("h: li a7, 0\nadd a0, a0, s8\nsub a0, a0, s9\necall");
        TimeMachine x = s.booted(c);
        x.run(60000);
        c.same("frames", x.count(10), 249);
        c.same("READ found none: signal 7, and EXEC was FULL", x.register(0, 21), 4 + 256 * (7 + 4));
        c.same("the bytes are still there", x.descriptor(0, 2, 2), 8);
    }

    private static void lastFrames() {
        c.about("the last frames that are free");
        c.same("READ to one page, the last frame", crowd.code(6, Script.READ, 2, "b", 8), 8);
        c.same("READ to one page, none", crowd.code(7, Script.READ, 2, "b", 8), 128 + 7);
        c.same("READ to two pages, two frames", crowd.code(5, Script.READ, 2, 2044, 8), 8);
        c.same("READ to two pages, one frame", crowd.code(6, Script.READ, 2, 2044, 8), 128 + 7);
        c.same("of the bytes that come", crowd.code(6, Script.READ, 2, 2040, 512), 8);
        c.same("READ to two pages, one is its own", crowd.code(6, Script.READ, 2, 8188, 8), 8);
        c.same("READ to a page of its own", crowd.code(7, Script.READ, 2, 8192, 8), 8);
        c.same("PIPE, the last frame", crowd.code(6, Script.PIPE, "b"), 0);
        c.same("PIPE, none", crowd.code(7, Script.PIPE, "b"), 128 + 7);
        c.same("PIPE to two pages, two frames", crowd.code(5, Script.PIPE, 2044), 0);
        c.same("PIPE to two pages, one frame", crowd.code(6, Script.PIPE, 2044), 128 + 7);
        c.same("WRITE needs none", crowd.code(7, Script.WRITE, 1, "b", 5), 5);
        c.same("GROW, smaller", crowd.code(7, Script.GROW, 60000), 60416 & 255);
        c.same("FORK needs none", crowd.code(7, Script.FORK), 5);
        c.same("EXEC", crowd.code(7, Script.EXEC, 0), -4 & 255);
    }

    private static void manyProcesses() {
        c.about("all processes");
        Script s = new Script().add("1: ").call(Script.FORK).add("mv s0, a0\nbgtz a0, 1b").stay();
        TimeMachine x = s.booted(c);
        x.run(1000);
        c.same("processes", x.count(11), 16);
        c.same("FULL", x.register(0, 8), FULL);
        c.same("the last child", x.process(15, 1), 0);
        c.same("the console's users", x.descriptor(15, 0, 1), 32);
        c.same("frames", x.count(10), 6);
        // The least absent one is taken.
        x.outside(2, 7, 9);
        x.run(1);
        c.same("ended", x.process(7, 0), 3);
        c.same("not absent", x.count(11), 16);
    }

    /** Each of sixteen has things of its own, and becomes another program: none disturbs its neighbours. */
    private static void sixteenAlike() {
        c.about("sixteen processes");
        Script script = new Script();
        for (int i = 0; i < 4; i++) {
            script.call(Script.FORK);
        }
        script.call(Script.SELF).add("mv s1, a0\nla t0, own\nsw s1, 0(t0)\nslli s2, s1, 2");
        for (int signal : new int[] {1, 15}) {
            script.add("li a0, " + signal + "\naddi a1, s2, 64\nli a7, 17\necall");
        }
        script.call(Script.GROW, 4096 + 100).call(Script.DUP, 1, 15).call(Script.YIELD);
        script.add("la t0, own\nlw s3, 0(t0)\nli t1, 4096\nsw s1, 0(t1)").call(Script.YIELD);
        script.add("li a0, 15\nli a1, 0\nli a7, 17\necall\nmv s4, a0").call(Script.RANDOM);
        script.call(Script.EXEC, 1).data("own: .word 0");
        TimeMachine x = new TimeMachine();
        c.same("assemble", Checks.assemble(x, 0, script.source()), 0);
        c.same("assemble", Checks.assemble(x, 1, "li a7, 15\necall\nli a7, 21\necall\nj .-8\n.data\n.word 5"), 0);
        x.boot(0);
        x.run(60000);
        c.same("all wait", x.reason(), 1);
        for (int p = 0; p < 16; p++) {
            c.same("SELF of " + p, x.register(p, 9), p);
            c.same("its word, " + p, x.register(p, 19), p);
            c.same("its heap, " + p, x.peek(p, 4096), p);
            c.same("its handler, " + p, x.register(p, 20), 4 * p + 64);
            c.same("its pages, " + p, x.process(p, 5), 1 + 1 + 3 + 4);
            c.same("its descriptor 15, " + p, x.descriptor(p, 15, 1), 3 * 16);
        }
        for (int p = 15; p >= 0; p--) {
            x.outside(4, p, 0);
        }
        x.run(60000);
        for (int p = 0; p < 16; p++) {
            c.same("it is another program, " + p, x.process(p, 5), 1 + 1 + 4);
            c.same("its heap, " + p, x.process(p, 6), 2048);
            c.same("it waits, " + p, x.process(p, 7), Script.RANDOM);
            c.same("its stack, " + p, x.register(p, 2), 65536);
            c.same("s1, " + p, x.register(p, 9), 0);
            c.same("its data, " + p, x.peek(p, 1024), 5);
        }
        c.same("frames", x.count(10), 16 * 6);
        for (int p = 0; p < 16; p++) {
            c.same("signal for " + p, x.outside(2, p, 1), 0);
        }
        x.run(60000);
        c.same("none had a handler any more", x.reason(), 2);
        c.same("frames", x.count(10), 0);
        c.same("openings", x.count(13), 0);
    }

    private static void outsideEvents() {
        c.about("promise 12");
        TimeMachine x = new TimeMachine();
        c.argument("kind -1", () -> x.outside(-1, 0, 0));
        c.argument("kind 5", () -> x.outside(5, 0, 0));
        c.argument("SWITCH to 16", () -> x.outside(0, 16, 0));
        c.argument("SWITCH to -1", () -> x.outside(0, -1, 0));
        c.argument("SWITCH to 2^32", () -> x.outside(0, 1L << 32, 0));
        c.argument("TYPED of 0", () -> x.outside(1, 0, 0));
        c.argument("TYPED of 9", () -> x.outside(1, 0, 9));
        c.argument("SIGNAL to 16", () -> x.outside(2, 16, 1));
        c.argument("SIGNAL 0", () -> x.outside(2, 0, 0));
        c.argument("SIGNAL 32", () -> x.outside(2, 0, 32));
        c.argument("CLOCK -1", () -> x.outside(3, -1, 0));
        c.argument("CLOCK above 2^40", () -> x.outside(3, (1L << 40) + 1, 0));
        c.state("nothing is booted", () -> x.outside(3, 1L << 40, 0));
        c.state("nothing is booted", () -> x.outside(2, 0, 31));
        Checks.assemble(x, 0, "1: j 1b");
        x.boot(0);
        c.same("SWITCH to itself", x.outside(0, 0, 77), 0);
        c.same("SWITCH to an absent one", x.outside(0, 1, 0), 1);
        c.same("SIGNAL to an absent one", x.outside(2, 1, 1), 1);
        c.same("SIGNAL 16", x.outside(2, 0, 16), 1);
        c.same("SIGNAL 31", x.outside(2, 0, 31), 1);
        c.same("CLOCK 0", x.outside(3, 0, 5), 0);
        c.same("CLOCK 2^40", x.outside(3, 1L << 40, 0), 0);
        c.same("CLOCK again", x.outside(3, 1L << 40, 0), 0);
        c.same("the clock", x.count(6), 1L << 41);
        c.same("recorded", x.count(3), 4);
        c.same("pending of what was not taken", x.process(0, 3), 0);
        x.run(3);
        x.go(2);
        c.same("NOW is not END", x.outside(3, 1, 0), 2);
        c.argument("CLOCK -1", () -> x.outside(3, -1, 0));
        x.go(3);
        for (int i = 4; i < 2048; i++) {
            c.same("recorded", x.outside(3, 1, 0), 0);
        }
        c.same("2048 are recorded", x.outside(3, 1, 0), 3);
        c.same("ahead of one that can't be", x.outside(0, 3, 0), 3);
        x.go(0);
        c.same("ahead of 2048", x.outside(3, 1, 0), 2);
    }

    private static void endedOnes() {
        c.about("promises 22 and 23, ended ones");
        Script s = new Script().call(Script.FORK).add("beqz a0, 1f").stay();
        s.add("1: li s0, 44").call(Script.GROW, 4000).call(Script.SIGNAL, 1, 3).add("e: ").call(Script.EXIT, -1);
        TimeMachine x = s.booted(c);
        x.run(1000);
        int[] due = {3, 0, 128 + 3, 0, 0, 0, 0, -1};
        for (int what = 0; what < due.length; what++) {
            c.same("process(1, " + what + ")", x.process(1, what), due[what]);
        }
        c.same("its register", x.register(1, 8), 44);
        c.same("its place", x.register(1, 32), x.label(0, 0));
        c.same("its pages", x.peek(1, 0), -1);
        c.same("its descriptors", x.descriptor(1, 0, 0), 0);
        c.same("the console's users", x.descriptor(0, 0, 1), 2);
        Script t = new Script().call(Script.FORK).add("beqz a0, 1f").stay().add("1: li a0, 300\nli a7, 0\ne: ecall");
        x = t.booted(c);
        x.run(1000);
        c.same("its code", x.process(1, 2), 300 & 255);
        c.same("its place is that of the call", x.register(1, 32), x.label(0, 0));
    }
}
