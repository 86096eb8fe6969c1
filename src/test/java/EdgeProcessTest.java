/** The boundary cases that the document names of processes, signals, frames and calls: promises 10, 22 to 24. */
public final class EdgeProcessTest {
    private static final Checks c = new Checks();
    private static final Crowd crowd = new Crowd(c);
    private static final int INVALID = -22;
    private static final int MISSING = -2;
    private static final int FULL = -4;
    private static final int BROKEN = -5;
    private static final int NONE = -10;
    /** Forks till no process is absent; then all go round. */
    private static final String MANY = "1: li a7, 1\necall\nmv s0, a0\nbgtz a0, 1b\n2: j 2b";
    /** A child that waits for a random word, and its parent, which waits for the child and keeps the answer in s0. */
    private static final String PAIR = "li a7, 1\necall\nbeqz a0, 1f\nli a7, 3\necall\nmv s0, a0\nli a7, 21\necall\n"
            + "1: li a7, 21\necall\n";

    public static void main(String[] args) {
        sixteen();
        noCurrent();
        ring();
        behindTheLast();
        copies();
        frames();
        spaces();
        rights();
        firstRegisters();
        heapBegins();
        allAsAtFirst();
        ticks();
        leastSignal();
        nineFirst();
        withinHandler();
        endsBySignal();
        saved();
        traps();
        ends();
        endedChildren();
        codes();
        answers();
        waitsAndSignals();
        otherCalls();
        exits();
        forks();
        execs();
        execNumbers();
        execFrames();
        waits();
        selves();
        heapBounds();
        heapPages();
        heapFrames();
        yields();
        signalNumbers();
        handlerNumbers();
        backs();
        sleeps();
        sleepsOn();
        clocks();
        randoms();
        noFrames();
        framesLast();
        wrongBoots();
        boots();
        registers();
        told();
        peeks();
        c.finish();
    }

    private static void sixteen() {
        c.sentence("processes", "PROCESSES 0 .. 15 are ABSENT, READY, WAITING or ENDED.");
        TimeMachine x = c.booted(MANY);
        x.run(200);
        c.same("processes", x.count(11), 16);
        for (int p = 0; p < 16; p++) {
            c.same("process " + p, x.process(p, 0), 1);
            c.same("its parent", x.process(p, 1), p == 0 ? -1 : 0);
        }
        c.same("there is no sixteenth", x.process(16, 0), 0);
        c.sentence("calls", "1 FORK: the least ABSENT process (FULL without one) is READY");
        c.same("FULL", x.register(0, 8), FULL);
        // 9 ends and is waited for, so it is absent; 5 ends, and is not waited for.
        Script s = new Script().add(MANY.replace("2: j 2b", "beqz a0, 3f")).call(Script.WAIT).add("mv s1, a0")
                .call(Script.FORK);
        s.add("mv s2, a0\nbeqz a0, 3f").call(Script.FORK).add("mv s3, a0\n3: ").stay();
        x = s.booted(c);
        x.run(500);
        x.outside(2, 9, 9);
        x.run(100);
        x.outside(2, 5, 9);
        x.run(100);
        c.same("waited for", x.register(0, 9) & 255, 9);
        c.same("the least absent one", x.register(0, 18), 9);
        c.same("FULL, as one that has ended is not absent", x.register(0, 19), FULL);
        c.same("it has ended", x.process(5, 0), 3);
    }

    private static void noCurrent() {
        c.sentence("processes", "The CURRENT one is READY and runs; there is none (-1) just when none is READY");
        TimeMachine x = c.booted("li a7, 21\necall\nli a7, 0\necall");
        c.same("READY", x.count(2), 0);
        x.run(2);
        c.same("WAITING", x.process(0, 0), 2);
        c.same("none", x.count(2), -1);
        c.sentence("processes", "(asked behind each tick, and each event)");
        x.outside(4, 1, 0);
        c.same("READY by an event", x.process(0, 0), 1);
        c.same("it is the current one", x.count(2), 0);
        x.run(3);
        c.same("ABSENT", x.process(0, 0), 0);
        c.same("none", x.count(2), -1);
    }

    private static void ring() {
        c.sentence("processes", "the next READY one behind it in the ring 0, 1, .., 15, 0 .. is it");
        TimeMachine x = c.booted(MANY);
        x.run(200);
        int[] killed = {15, 0, 3, 1, 14};
        int[] next = {0, 1, 4, 2, 2};
        // When 14 ends, 15, 0 and 1 are gone already.
        for (int i = 0; i < killed.length; i++) {
            c.same("SWITCH", x.outside(0, killed[i], 0), 0);
            c.same("SIGNAL", x.outside(2, killed[i], 9), 0);
            c.same("still the current one", x.count(2), killed[i]);
            x.run(1);
            c.same("behind " + killed[i], x.count(2), next[i]);
        }
        x.run(10);
        c.same("it stays", x.count(2), 2);
    }

    private static void behindTheLast() {
        c.sentence("processes", "(also when there was none: behind the one that was it last, at first 15)");
        c.same("at first", c.booted("nop").count(2), 0);
        TimeMachine x = c.booted("li a7, 1\necall\necall\n1: li a7, 19\nli a0, 5\necall\nj 1b");
        x.run(1000);
        c.same("four", x.count(11), 4);
        for (int last = 3; last >= 0; last--) {
            c.same("none", x.count(2), -1);
            x.outside(3, 5, 0);
            for (int i = 1; i <= 4; i++) {
                int p = (last + i) % 4;
                x.outside(0, p, 0);
                for (int ticks = 0; ticks < 10 && x.process(p, 0) == 1; ticks++) {
                    x.run(1);
                }
            }
            c.same("none", x.count(2), -1);
            x.outside(3, 5, 0);
            c.same("behind " + last, x.count(2), (last + 1) % 4);
            c.same("all are READY", x.process(0, 0) + x.process(1, 0) + x.process(2, 0) + x.process(3, 0), 4);
            x.run(1000);
        }
    }

    private static void copies() {
        c.sentence("frames", "may be a copy that stands in the same one until one of both is written: then it comes"
                + " into one of its own.");
        String begin = "la t0, d\nli a7, 1\necall\nbeqz a0, 1f\n";
        TimeMachine x = c.booted(begin + "sw sp, 0(t0)\n2: j 2b\n1: sw t0, 0(t0)\n2: j 2b\n.data\nd: .word 1");
        x.run(4);
        c.same("text, data and stack", x.count(10), 6);
        x.run(1);
        c.same("the parent's own", x.count(10), 6);
        x.run(1);
        c.same("when it is written", x.count(10), 7);
        c.same("the parent's word", Checks.word(x, 0, 1024), 65536);
        c.same("the child's", Checks.word(x, 1, 1024), 1);
        x.outside(0, 1, 0);
        x.run(2);
        c.same("the other one is alone in its frame", x.count(10), 7);
        c.same("the child's word", Checks.word(x, 1, 1024), 1024);
        c.same("the parent's", Checks.word(x, 0, 1024), 65536);
        TimeMachine y = c.booted(begin + "lw t1, 0(t0)\n2: j 2b\n1: j 1b\n.data\nd: .word 1");
        y.run(20);
        c.same("reading takes none", y.count(10), 6);
        copiesOfCopies();
        writtenByKernel();
    }

    /** A child's heap is copied by its own child. */
    private static void copiesOfCopies() {
        Script s = new Script().call(Script.FORK).add("bnez a0, 9f").call(Script.GROW, 4096)
                .add("li t0, 3000\nli t1, 5\nsb t1, 0(t0)");
        s.call(Script.FORK).add("bnez a0, 9f\nli t0, 3000\nli t1, 6\nsb t1, 0(t0)\n9: ").stay();
        TimeMachine x = s.booted(c);
        x.run(100);
        c.same("the child's", x.peek(1, 3000), 5);
        c.same("its child's", x.peek(2, 3000), 6);
        c.same("none of the first one", x.peek(0, 3000), -1);
        c.same("frames", x.count(10), 6 + 2 + 1);
    }

    /** What PIPE and READ put into memory comes into frames of the process's own: those of the bytes, and no others. */
    private static void writtenByKernel() {
        Script s = new Script().data("p: .word 0, 0").data("n: .asciz \"f\"").call(Script.GROW, 12288)
                .call(Script.PIPE, "p");
        s.call(Script.OPEN, "n", 9).call(Script.WRITE, 3, 0, 8).call(Script.FORK).add("bnez a0, 9f")
                .call(Script.PIPE, 3068);
        s.call(Script.READ, 2, 5119, 2).call(Script.READ, 2, 7166, 2).call(Script.READ, 2, 8200, 1)
                .call(Script.READ, 4, 9300, 5);
        s.add("9: ").stay();
        TimeMachine x = s.booted(c);
        x.run(100);
        c.same("the child waits", x.process(1, 7), 21);
        c.same("PIPE's words, on two pages", Checks.word(x, 1, 3068) * 10 + Checks.word(x, 1, 3072), 56);
        c.same("the parent's", Checks.word(x, 0, 3068) | Checks.word(x, 0, 3072), 0);
        int[] at = {5119, 5120, 7166, 7167, 8200};
        for (int i = 0; i < at.length; i++) {
            c.same("READ's byte " + i, x.peek(1, at[i]), x.peek(1, i));
            c.same("the parent's", x.peek(0, at[i]), 0);
        }
        c.same("frames", x.count(10), 16 + 2 + 2 + 1 + 1);
    }

    private static void frames() {
        c.sentence("frames", "At most 256 different frames are in use by all spaces.");
        String store = "li t0, 16384\nsb t0, 0(t0)\nli a7, 0\nli a0, 5\necall";
        c.same("a store into the last frame", crowd.code(Crowd.FREE - 1, store), 5);
        c.same("a store without one", crowd.code(Crowd.FREE, store), 128 + 7);
        c.same("a store to a page of its own", crowd.code(Crowd.FREE, store.replace("16384", "8192")), 5);
        TimeMachine x = c.booted("li a7, 14\nli a0, 60416\necall\n1: li a7, 1\necall\nbnez a0, 2f\nli t0, 1024\n"
                + "li t2, 60416\n"
                + "3: sb t0, 0(t0)\naddi t0, t0, 1024\nbne t0, t2, 3b\nli a7, 4\necall\nj 1b\n2: li a7, 21\necall\n"
                + ".data\n.byte 1");
        while (x.count(10) < 240) {
            x.run(20);
        }
        long most = 0;
        for (int i = 0; i < 200; i++) {
            x.run(1);
            most = Math.max(most, x.count(10));
        }
        c.same("all are in use", most, 256);
    }

    private static void spaces() {
        c.sentence("booting", "its bytes from address 0 on, on pages of its text (from 0 up to its size, rights 5)"
                + " and of its data (rights 3), each as many as are needed, 0 behind");
        int[][] sizes = {{0, 0}, {0, 1}, {1, 0}, {1, 1}, {1023, 1024}, {1024, 1025}, {1025, 1023}, {2048, 2049}};
        for (int[] size : sizes) {
            TimeMachine x = c.booted(".space " + size[0] + "\n.data\n.space " + size[1]);
            int text = (size[0] + 1023) / 1024;
            int data = (size[1] + 1023) / 1024;
            String what = "pages of " + size[0] + " and " + size[1];
            c.same(what, x.process(0, 5), text + data + 4);
            c.same("frames of these", x.count(10), text + data + 4);
            for (int k = 0; k < 64; k++) {
                boolean there = k < text + data || k >= 60;
                c.same("page " + k + ", " + what, x.peek(0, k * 1024), there ? 0 : -1);
                c.same("the end of page " + k + ", " + what, x.peek(0, k * 1024 + 1023), there ? 0 : -1);
                c.same("page " + k + " may be carried out, " + what, x.text(0, k * 1024, 0), k < text ? '.' : -1);
            }
        }
        TimeMachine x = c.booted(".byte 1, 2\n.data\n.byte 3");
        c.same("the text's bytes", x.peek(0, 1), 2);
        c.same("0 behind", x.peek(0, 2), 0);
        c.same("the data's byte", x.peek(0, 1024), 3);
        c.same("0 behind", x.peek(0, 1025), 0);
        TimeMachine full = c.booted(".byte 1\n.space 32766\n.byte 2");
        c.same("the largest text's last byte", full.peek(0, 32767), 2);
        c.same("no page behind it", full.peek(0, 32768), -1);
    }

    private static void rights() {
        c.sentence("booting", "the pages 60 .. 63 with 0, rights 3 (the STACK)");
        Steps t = new Steps(c);
        t.ends(0, "li a0, 61440\nsb a0, 0(a0)", "li a0, 65535\nsb a0, 0(a0)", "li a0, 61440\nlw a1, 0(a0)\nbnez a1, 0");
        t.ends(11, "li a0, 61440\njr a0", "li a0, 61439\nsb a0, 0(a0)", "sb a0, 0(zero)", "la a0, d\njr a0",
                "li a0, 65534\njr a0");
        t.ends(0, "lb a0, 0(zero)", "la a0, d\nsb a0, 0(a0)", "la a0, d\nlb a0, 0(a0)");
    }

    private static void firstRegisters() {
        c.sentence("booting", "x2 65536, the other registers and the place 0; its parent is -1, its descriptors 0 and"
                + " 1 are to one opening of the console");
        TimeMachine x = c.booted("nop");
        for (int r = 0; r <= 32; r++) {
            c.same("register " + r, x.register(0, r), r == 2 ? 65536 : 0);
        }
        c.same("its parent", x.process(0, 1), -1);
        for (int d = 0; d < 16; d++) {
            c.same("descriptor " + d, x.descriptor(0, d, 0), d < 2 ? 4 : 0);
        }
        c.same("to one opening", x.descriptor(0, 0, 1), 2);
        c.same("openings", x.count(13), 1);
    }

    private static void heapBegins() {
        c.sentence("booting", "its HEAP begins and ends at the first multiple of 1024 that is not below the program's"
                + " end.");
        String[] texts = {"", ".space 1", ".space 1024", ".space 1025", ".space 1\n.data\n.byte 1",
            ".space 1\n.data\n.space 1024",
            ".space 1\n.data\n.space 1025", ".space 1\n.data", ".space 32768"};
        int[] due = {0, 1024, 1024, 2048, 2048, 2048, 3072, 1024, 32768};
        for (int i = 0; i < texts.length; i++) {
            c.same("heap of <" + texts[i] + ">", c.booted(texts[i]).process(0, 6), due[i]);
        }
        // It begins there, too: it may not end below.
        Script s = new Script();
        s.kept(Script.GROW, 2047);
        s.kept(Script.GROW, 2048);
        TimeMachine x = s.stay().booted(c);
        x.run(100);
        c.answers("answers", x, 0, 0, INVALID, 2048);
    }

    private static void allAsAtFirst() {
        c.sentence("booting", "BOOTING program p: all is as at first, the count 0");
        Script s = new Script().data("p: .word 0, 0").data("n: .asciz \"f\"").call(Script.HANDLER, 3, "n")
                .call(Script.PIPE, "p");
        s.call(Script.WRITE, 3, "n", 2).call(Script.OPEN, "n", 10).call(Script.WRITE, 4, "n", 2)
                .call(Script.WRITE, 1, "n", 2);
        s.call(Script.GROW, 8192).call(Script.FORK).call(Script.SLEEP, 500);
        TimeMachine x = s.booted(c);
        java.util.List<Long> first = TimeSeen.of(x);
        x.outside(1, 7, 3);
        x.outside(4, 7, 0);
        x.outside(3, 7, 0);
        x.run(100);
        x.outside(2, 1, 4);
        c.same("it is another", TimeSeen.of(x).equals(first) ? 1 : 0, 0);
        x.boot(0);
        c.same("it is as at first", TimeSeen.of(x).equals(first) ? 1 : 0, 1);
        x.run(100);
        c.same("the same bytes are shown", Checks.shown(x), "f\0");
        TimeMachine y = c.booted("li a7, 21\necall\nli a7, 0\necall");
        y.run(9);
        c.same("one waits", y.reason(), 1);
        y.boot(0);
        y.outside(4, 1, 0);
        y.run(9);
        c.same("none that waited before is left", y.reason(), 2);
    }

    private static void ticks() {
        c.sentence("a tick", "A TICK, when there is a current process, makes the COUNT one more.");
        TimeMachine x = c.booted("nop\nli a7, 21\necall");
        for (int i = 1; i <= 3; i++) {
            x.run(1);
            c.same("the count", x.count(0), i);
        }
        c.same("without a current one", x.run(1), 0);
        c.same("the count", x.count(0), 3);
        x.outside(2, 0, 5);
        x.run(1);
        c.same("a signal that is taken is a tick", x.count(0), 4);
    }

    /** A child with handlers for all signals but 9, which keeps in s1 what it took, sixteen times as much each time. */
    private static TimeMachine handling() {
        Script s = new Script().call(Script.FORK).add("bnez a0, 9f\nli s2, 1\n1: ").call(Script.HANDLER, "s2", "h");
        s.add("addi s2, s2, 1\nli t0, 16\nbne s2, t0, 1b\nli s1, 0").stay();
        // What a handler counts must not be put back, so it stands in memory.
        s.add("h: la t0, k\nlw t1, 0(t0)\nslli t1, t1, 4\nadd t1, t1, a0\nsw t1, 0(t0)").call(Script.BACK).add("9: ")
                .stay();
        s.data("k: .word 0");
        TimeMachine x = s.booted(c);
        x.run(500);
        c.same("the child waits", x.process(1, 7), 21);
        return x;
    }

    private static void leastSignal() {
        c.sentence("a tick", "the least such one (9 before others) is TAKEN: it is pending no more");
        TimeMachine x = handling();
        for (int signal : new int[] {15, 2, 8, 1, 10, 14}) {
            c.same("SIGNAL " + signal, x.outside(2, 1, signal), 0);
        }
        c.same("pending", x.process(1, 3), 1 << 15 | 1 << 2 | 1 << 8 | 1 << 1 | 1 << 10 | 1 << 14);
        x.run(1);
        c.same("the least is taken", x.register(1, 10), 1);
        c.same("it is pending no more", x.process(1, 3), 1 << 15 | 1 << 2 | 1 << 8 | 1 << 10 | 1 << 14);
        x.run(500);
        c.same("one behind the other", Checks.word(x, 1, x.label(0, 2)), 0x128aef);
        c.same("none pending", x.process(1, 3), 0);
    }

    private static void nineFirst() {
        c.sentence("a tick", "if the process has a pending signal, and is not within a handler or this is 9");
        TimeMachine x = handling();
        for (int signal : new int[] {1, 9, 15}) {
            x.outside(2, 1, signal);
        }
        x.run(1);
        c.same("9 before others", x.process(1, 0), 3);
        c.same("its code", x.process(1, 2), 128 + 9);
        x = handling();
        x.outside(2, 1, 4);
        x.run(2);
        c.same("within", x.process(1, 4), 1);
        x.outside(2, 1, 3);
        x.outside(2, 1, 9);
        x.run(1);
        c.same("9, also within a handler", x.process(1, 0), 3);
        c.same("its code", x.process(1, 2), 128 + 9);
    }

    private static void withinHandler() {
        c.sentence("a tick", "and is not within a handler");
        TimeMachine x = handling();
        x.outside(2, 1, 4);
        x.run(1);
        x.outside(2, 1, 4);
        x.outside(2, 1, 3);
        for (int i = 0; i < 4; i++) {
            x.run(1);
            c.same("none is taken within", x.process(1, 3), 1 << 4 | 1 << 3);
            c.same("within", x.process(1, 4), 1);
        }
        x.run(100);
        c.same("behind BACK", Checks.word(x, 1, x.label(0, 2)), 0x434);
        // Within a handler no call that waits is ended by another signal than 9.
        TimeMachine y = c.booted("li a7, 17\nli a0, 3\nla a1, h\necall\nli a7, 16\nli a0, 0\nli a1, 3\necall\nnop\n"
                + "h: li a7, 21\necall");
        y.run(100);
        c.same("waits within", y.process(0, 7), 21);
        y.outside(2, 0, 3);
        c.same("still", y.process(0, 0), 2);
        y.outside(2, 0, 9);
        c.same("ready", y.process(0, 0), 1);
    }

    private static void endsBySignal() {
        c.sentence("a tick", "without a handler the process ENDS with the code 128 + the signal");
        for (int signal = 1; signal <= 15; signal++) {
            TimeMachine x = c.booted(PAIR);
            x.run(100);
            x.outside(2, 1, signal);
            x.run(1);
            c.same("ENDED by " + signal, x.process(1, 0), 3);
            c.same("its code", x.process(1, 2), 128 + signal);
            x.run(100);
            c.same("what WAIT answers", x.register(0, 8), 1 + 256 * (128 + signal));
        }
        // A handler of 0 is none.
        TimeMachine x = c.booted("li a7, 17\nli a0, 3\nli a1, 8\necall\nli a0, 3\nli a1, 0\necall\nli a7, 21\necall");
        x.run(100);
        x.outside(2, 0, 3);
        x.run(1);
        c.same("it ends", x.process(0, 0), 0);
    }

    private static void saved() {
        c.sentence("a tick", "else its registers and place are SAVED, it is within a handler, x10 is the signal, the"
                + " place is that of the handler.");
        StringBuilder all = new StringBuilder("li a7, 17\nli a0, 15\nla a1, h\necall\n");
        StringBuilder others = new StringBuilder("h: ");
        for (int r = 1; r < 32; r++) {
            all.append("li x").append(r).append(", ").append(r == 17 ? 21 : 1000 + r).append('\n');
            others.append("li x").append(r).append(", ").append(r == 17 ? 18 : -r).append('\n');
        }
        TimeMachine x = c.booted(all + "ecall\nebreak\n" + others + "ecall");
        x.run(100);
        c.same("waits", x.process(0, 7), 21);
        int place = x.register(0, 32);
        x.outside(2, 0, 15);
        x.run(1);
        c.same("within", x.process(0, 4), 1);
        c.same("x10", x.register(0, 10), 15);
        c.same("the place", x.register(0, 32), x.label(0, 0));
        for (int r = 1; r < 32; r++) {
            c.same("register " + r + " in the handler", x.register(0, r), r == 10 ? 15 : r == 17 ? 21 : 1000 + r);
        }
        x.run(31);
        c.same("the handler's own", x.register(0, 31), -31);
        x.run(1);
        c.same("within none", x.process(0, 4), 0);
        c.same("the place", x.register(0, 32), place);
        for (int r = 0; r < 32; r++) {
            c.same("register " + r + " behind BACK", x.register(0, r), r == 0 ? 0 : r == 17 ? 21 : 1000 + r);
        }
    }

    private static void traps() {
        c.sentence("a tick", "11 for FETCH, LOAD and STORE, 4 for ILLEGAL, 5 for BREAK, 7 for MISALIGNED: taken at"
                + " once as in (1) if it has a handler and is not within one; else it ends with the code 128 + the"
                + " signal.");
        String[] lines = {"j 4096", "lw t0, -4(zero)", "sw t0, 0(zero)", ".half 0", "ebreak", "lw t0, 1(zero)",
            "sh t0, 1(zero)"};
        int[] due = {11, 11, 11, 4, 5, 7, 7};
        for (int i = 0; i < lines.length; i++) {
            String begin = "li a7, 17\nli a0, " + due[i] + "\nla a1, h\necall\nli s0, 7\nb: " + lines[i] + "\n";
            TimeMachine x = c.booted(begin + "h: " + lines[i]);
            int ticks = lines[i].startsWith("j") ? 8 : 7;
            x.run(ticks - 1);
            int place = x.register(0, 32);
            c.same("not yet, " + lines[i], x.process(0, 4), 0);
            x.run(1);
            c.same("taken at once, " + lines[i], x.register(0, 10), due[i]);
            c.same("within", x.process(0, 4), 1);
            c.same("not pending", x.process(0, 3), 0);
            c.same("at the handler", x.register(0, 32), x.label(0, 1));
            c.same("the place was that of the trap", place, lines[i].startsWith("j") ? 4096 : x.label(0, 0));
            x.run(lines[i].startsWith("j") ? 2 : 1);
            c.same("within a handler it ends", x.process(0, 0), 0);
        }
        Steps t = new Steps(c);
        for (int i = 0; i < lines.length; i++) {
            t.ends(due[i], lines[i]);
        }
    }

    private static void ends() {
        c.sentence("ends", "A process that ENDS closes its descriptors and gives its pages back");
        Script s = new Script().data("p: .word 0, 0").call(Script.PIPE, "p").call(Script.FORK).add("bnez a0, 1f");
        s.call(Script.GROW, 8192).add("sw sp, -4(sp)").call(Script.SLEEP, 5).call(Script.EXIT, 1).add("1: ").stay();
        TimeMachine x = s.booted(c);
        x.run(100);
        c.same("descriptors to the pipe's end", x.descriptor(0, 2, 1), 2);
        c.same("frames", x.count(10), 6 + 6 + 1);
        x.outside(3, 5, 0);
        x.run(100);
        c.same("ENDED", x.process(1, 0), 3);
        c.same("descriptors to the pipe's end", x.descriptor(0, 2, 1), 1);
        c.same("to the console", x.descriptor(0, 0, 1), 2);
        c.same("frames", x.count(10), 6);
        for (int d = 0; d < 16; d++) {
            c.same("its descriptor " + d, x.descriptor(1, d, 0), 0);
        }
        c.same("its pages", x.process(1, 5), 0);
        c.same("a byte of it", x.peek(1, 0), -1);
        // The last one that is to a pipe's reading end goes with its process.
        Script w = new Script().data("p: .word 0, 0").call(Script.PIPE, "p").call(Script.FORK).add("beqz a0, 1f")
                .call(Script.CLOSE, 2);
        w.kept(Script.WRITE, 3, "p", 1);
        w.call(Script.SLEEP, 5);
        w.kept(Script.WRITE, 3, "p", 1);
        w.stay().add("1: ").call(Script.SLEEP, 1).call(Script.EXIT, 0);
        TimeMachine y = w.booted(c);
        y.run(100);
        y.outside(3, 1, 0);
        y.run(100);
        y.outside(3, 4, 0);
        y.run(100);
        c.answers("answers", y, 0, 0, 1, BROKEN);
    }

    private static void endedChildren() {
        c.sentence("ends", "its children have no parent then (those that have ENDED are ABSENT); without a parent it"
                + " is ABSENT, else ENDED with its code (0 .. 255), until it is waited for.");
        Script s = new Script().call(Script.FORK).add("bnez a0, 9f").call(Script.FORK).add("beqz a0, 2f")
                .call(Script.FORK).add("beqz a0, 3f");
        s.call(Script.SLEEP, 5).call(Script.EXIT, 1).add("2: ").call(Script.EXIT, 2).add("3: ").call(Script.SLEEP, 10)
                .call(Script.EXIT, 3);
        s.add("9: ").call(Script.SLEEP, 20).call(Script.WAIT).add("mv s0, a0").call(Script.WAIT).add("mv s1, a0")
                .call(Script.EXIT, 0);
        TimeMachine x = s.booted(c);
        x.run(1000);
        c.same("a child that has ENDED", x.process(2, 0), 3);
        x.outside(3, 5, 0);
        x.run(1000);
        c.same("its parent has ENDED", x.process(1, 0), 3);
        c.same("its parent's code", x.process(1, 2), 1);
        c.same("it is ABSENT", x.process(2, 0), 0);
        c.same("another child has no parent", x.process(3, 1), -1);
        c.same("it waits still", x.process(3, 7), 19);
        x.outside(3, 5, 0);
        x.run(1000);
        c.same("without a parent it is ABSENT", x.process(3, 0), 0);
        x.outside(3, 10, 0);
        x.run(5);
        c.same("waited for", x.register(0, 10), 1 + 256);
        c.same("ABSENT then", x.process(1, 0), 0);
        x.run(2);
        c.same("no other child is its own", x.register(0, 9), NONE);
        x.run(1000);
        c.same("none", x.count(11), 0);
    }

    private static void codes() {
        c.sentence("calls", "0 EXIT: it ends with the code a & 255.");
        int[] given = {0, 1, 255, 256, 257, -1, -256, Integer.MIN_VALUE, Integer.MAX_VALUE};
        for (int a : given) {
            TimeMachine x = c.booted("li a7, 1\necall\nbeqz a0, 1f\nli a7, 3\necall\nmv s0, a0\nli a7, 21\necall\n"
                    + "1: li a0, " + a
                    + "\nli a7, 0\necall");
            x.run(100);
            c.same("what WAIT answers for " + a, x.register(0, 8), 1 + 256 * (a & 255));
        }
    }

    private static void answers() {
        c.sentence("calls", "what it ANSWERS comes into x10, and the place is 4 more. A call that must WAIT does"
                + " neither");
        TimeMachine x = c.booted("li a0, 7\nli a7, 4\necall\nli a0, 7\nli a7, 21\necall\nnop");
        x.run(2);
        int place = x.register(0, 32);
        x.run(1);
        c.same("x10", x.register(0, 10), 0);
        c.same("the place", x.register(0, 32), place + 4);
        x.run(2);
        place = x.register(0, 32);
        x.run(1);
        c.same("WAITING", x.process(0, 0), 2);
        c.same("x10", x.register(0, 10), 7);
        c.same("the place", x.register(0, 32), place);
        x.outside(4, 99, 0);
        c.same("READY", x.process(0, 0), 1);
        c.same("nothing is answered yet", x.register(0, 10), 7);
        x.run(1);
        c.same("the call is made anew", x.register(0, 10), 99);
        c.same("the place", x.register(0, 32), place + 4);
    }

    private static void waitsAndSignals() {
        c.sentence("calls", "and is READY as soon as it would not have to wait any more (all for whom that is so), or"
                + " a signal that can be taken is pending: then it makes the call anew when it runs.");
        TimeMachine x = c.booted(MANY.replace("2: j 2b", "li a7, 21\necall\nmv s1, a0\nli a7, 21\necall"));
        x.run(1000);
        c.same("all wait", x.count(2), -1);
        x.outside(4, 55, 0);
        int ready = 0;
        for (int p = 0; p < 16; p++) {
            ready += x.process(p, 0) == 1 ? 1 : 0;
        }
        c.same("all for whom that is so", ready, 16);
        x.run(1000);
        int got = 0;
        int waiting = 0;
        for (int p = 0; p < 16; p++) {
            got += x.register(p, 9) == 55 ? 1 : 0;
            waiting += x.process(p, 0) == 2 ? 1 : 0;
        }
        c.same("one has the word", got, 1);
        c.same("the others wait again", waiting, 16);
        TimeMachine y = c.booted("li a7, 17\nli a0, 3\nla a1, h\necall\nli a7, 21\necall\nnop\nh: li a7, 18\necall");
        y.run(100);
        y.outside(2, 0, 3);
        c.same("READY by a signal", y.process(0, 0), 1);
        y.run(3);
        c.same("behind the handler", y.process(0, 4), 0);
        c.same("READY", y.process(0, 0), 1);
        y.run(1);
        c.same("it waits anew", y.process(0, 7), 21);
        signalledByCall();
    }

    /** Of two children that wait, one within its handler, a SIGNAL makes the other READY. */
    private static void signalledByCall() {
        Script s = new Script().call(Script.FORK).add("beqz a0, 1f").call(Script.FORK).add("beqz a0, 2f")
                .call(Script.SLEEP, 5);
        s.call(Script.SIGNAL, 1, 3).call(Script.SIGNAL, 2, 3).add("e: ").call(Script.SLEEP, 5).add("1: ")
                .call(Script.HANDLER, 3, "h").stay();
        s.add("2: ").call(Script.HANDLER, 3, "h").call(Script.SIGNAL, 2, 3).stay().add("h: ").stay();
        TimeMachine x = s.booted(c);
        x.run(1000);
        c.same("one is within its handler", x.process(1, 4) * 10 + x.process(2, 4), 1);
        x.outside(3, 5, 0);
        c.runTo(x, x.label(0, 0));
        c.same("READY, as a signal can be taken", x.process(1, 0), 1);
        c.same("WAITING, as none can", x.process(2, 0), 2);
        c.same("it is pending", x.process(2, 3), 1 << 3);
    }

    private static void otherCalls() {
        c.sentence("calls", "-38 for another x17.");
        Script s = new Script();
        int[] numbers = {22, 23, -1, 100, 1 << 16, Integer.MIN_VALUE, Integer.MAX_VALUE, 256 + 4};
        for (int number : numbers) {
            s.kept(number, 1, 2, 3);
        }
        TimeMachine x = s.stay().booted(c);
        x.run(1000);
        for (int i = 0; i < numbers.length; i++) {
            c.answers("x17 " + numbers[i], x, 0, i, -38);
        }
    }

    private static void exits() {
        c.sentence("calls", "Answers below 0, the first that is so in this order, change nothing else");
        Script s = new Script().data("k: .asciz \"k\"");
        s.kept(Script.READ, 99, 65536, 513);
        s.kept(Script.READ, 99, 65536, 5);
        s.kept(Script.READ, 99, "k", 1);
        s.kept(Script.OPEN, 65536, 64);
        s.kept(Script.OPEN, 65536, 1);
        s.kept(Script.OPEN, "k", 1);
        s.kept(Script.DUP, 99, 16);
        s.kept(Script.DUP, 99, 15);
        s.kept(Script.SEEK, 99, 0, 3);
        s.kept(Script.SEEK, 99, 0, 2);
        s.kept(Script.SIGNAL, 5, 16);
        s.kept(Script.SIGNAL, 5, 15);
        TimeMachine x = s.stay().booted(c);
        x.run(1000);
        c.answers("answers", x, 0, 0, INVALID, -14, -1, INVALID, -14, MISSING, INVALID, -1, INVALID, -1, INVALID, NONE);
        c.same("openings", x.count(13), 1);
        c.same("files", x.count(12), 0);
        c.same("frames", x.count(10), 6);
    }

    private static void forks() {
        c.sentence("calls", "a child with the same registers (but x10 0), place 4 more, copies of its pages,"
                + " descriptors, handlers, heap, saved ones and whether it is within a handler; nothing pending,"
                + " sleeping towards nothing.");
        // Within the handler of 3 it forks; both then go BACK.
        Script s = new Script().call(Script.HANDLER, 3, "h").call(Script.GROW, 5000).add("li s0, 40")
                .call(Script.SIGNAL, 0, 3).stay();
        s.add("h: ").call(Script.SIGNAL, 0, 5).add("li s0, 50\nli a7, 1\nf: ecall\nmv s1, a0").call(Script.BACK);
        TimeMachine x = s.booted(c);
        int fork = x.label(0, 1);
        c.runTo(x, fork);
        c.same("5 is pending", x.process(0, 3), 1 << 5);
        x.run(1);
        for (int r = 1; r < 32; r++) {
            c.same("register " + r, x.register(1, r), r == 10 ? 0 : x.register(0, r));
        }
        c.same("the answer", x.register(0, 10), 1);
        c.same("the child's place", x.register(1, 32), fork + 4);
        c.same("within", x.process(1, 4), 1);
        c.same("nothing pending", x.process(1, 3), 0);
        c.same("heap", x.process(1, 6), 5000);
        c.same("pages", x.process(1, 5), x.process(0, 5));
        c.same("descriptors", x.descriptor(1, 0, 1), 4);
        Script h = new Script().call(Script.GROW, 5000).call(Script.FORK);
        h.kept(Script.GROW, 2047);
        h.kept(Script.GROW, 2048);
        TimeMachine heap = h.stay().booted(c);
        heap.run(100);
        c.answers("where the child's heap begins and ended", heap, 1, 0, INVALID, 5000);
        x.outside(0, 1, 0);
        x.run(3);
        c.same("what was saved", x.register(1, 8), 40);
        c.same("within none", x.process(1, 4), 0);
        x.outside(2, 1, 3);
        x.run(1);
        c.same("the handler", x.register(1, 32), x.label(0, 0));
        // A parent that sleeps towards something when a handler forks: its child sleeps anew.
        Script z = new Script().call(Script.HANDLER, 3, "h").call(Script.SLEEP, 10).add("li s0, 1").stay().add("h: ")
                .call(Script.FORK);
        z.call(Script.BACK);
        TimeMachine y = z.booted(c);
        y.run(100);
        y.outside(3, 6, 0);
        y.outside(2, 0, 3);
        y.run(100);
        y.outside(3, 4, 0);
        y.run(100);
        c.same("the parent slept on", y.register(0, 8), 1);
        c.same("the child sleeps still", y.process(1, 7), 19);
        y.outside(3, 6, 0);
        y.run(100);
        c.same("ten from then on", y.register(1, 8), 1);
    }

    private static void execs() {
        c.sentence("calls", "registers and place as when booting, no handlers, is within none, sleeps towards"
                + " nothing; no word is reserved; descriptors and pending signals stay; it answers nothing.");
        Script s = new Script().data("p: .word 0, 0").call(Script.PIPE, "p").call(Script.HANDLER, 3, "h")
                .call(Script.HANDLER, 5, "h");
        s.call(Script.SLEEP, 10).add("h: ").call(Script.SIGNAL, 0, 5)
                .add("li s0, 9\nli s11, 9\nli a0, 1\nli a7, 2\ne: ecall");
        TimeMachine x = new TimeMachine();
        Checks.assemble(x, 0, s.source());
        Checks.assemble(x, 1, "li a7, 19\nli a0, 5\necall\nli s1, 4\nli a7, 21\necall\n.data\n.space 3000");
        x.boot(0);
        x.run(100);
        x.outside(3, 4, 0);
        x.outside(2, 0, 3);
        c.runTo(x, x.label(0, 1));
        c.same("within", x.process(0, 4), 1);
        x.run(1);
        for (int r = 0; r <= 32; r++) {
            c.same("register " + r, x.register(0, r), r == 2 ? 65536 : 0);
        }
        c.same("within none", x.process(0, 4), 0);
        c.same("pending stays", x.process(0, 3), 1 << 5);
        c.same("descriptors stay", x.descriptor(0, 3, 0), 2);
        c.same("pages", x.process(0, 5), 1 + 3 + 4);
        c.same("heap", x.process(0, 6), 4096);
        c.same("frames", x.count(10), 8);
        x.run(1);
        c.same("no handler", x.process(0, 0), 0);
        execWhileAsleep();
    }

    /** At 4 of its 10 a handler makes it another program, which sleeps 5: that is up to 9. */
    private static void execWhileAsleep() {
        Script s = new Script().call(Script.HANDLER, 3, "h").call(Script.SLEEP, 10).add("h: ").call(Script.EXEC, 1);
        TimeMachine x = new TimeMachine();
        Checks.assemble(x, 0, s.source());
        Checks.assemble(x, 1, "li a7, 19\nli a0, 5\necall\nli a7, 21\necall");
        x.boot(0);
        x.run(100);
        x.outside(3, 4, 0);
        x.outside(2, 0, 3);
        x.run(100);
        x.outside(3, 4, 0);
        c.same("at 8", x.process(0, 7), 19);
        x.outside(3, 1, 0);
        x.run(100);
        c.same("at 9", x.process(0, 7), 21);
    }

    private static void execNumbers() {
        c.sentence("calls", "(MISSING, if there is none, whatever a is");
        Script s = new Script();
        for (int a : new int[] {-1, 4, 3, 2, Integer.MIN_VALUE, Integer.MAX_VALUE, 256}) {
            s.kept(Script.EXEC, a);
        }
        s.add("e: ").call(Script.EXEC, 1);
        TimeMachine x = new TimeMachine();
        Checks.assemble(x, 0, s.source());
        Checks.assemble(x, 1, "li s0, 8\nli a7, 21\necall");
        x.boot(0);
        c.runTo(x, x.label(0, 0));
        c.answers("answers", x, 0, 0, MISSING, MISSING, MISSING, MISSING, MISSING, MISSING, MISSING);
        x.run(100);
        c.same("one that is there", x.register(0, 8), 8);
        Checks.assemble(x, 3, "li a7, 2\nli a0, 3\necall");
        x.boot(3);
        x.run(3);
        c.same("itself, anew", x.register(0, 17), 0);
        c.same("at its beginning", x.register(0, 32), 0);
    }

    private static void execFrames() {
        c.sentence("calls", "FULL, if the frames that are free, its old pages being there still, are fewer than its"
                + " pages, with the STACK's");
        // The program has a page of text, one of data, and the stack's four.
        c.same("six are free", crowd.code(1, Script.EXEC, 1), 77);
        c.same("five are free", crowd.code(2, Script.EXEC, 1), FULL & 255);
        c.same("none is free", crowd.code(7, Script.EXEC, 1), FULL & 255);
        c.same("MISSING first", crowd.code(7, Script.EXEC, 2), MISSING & 255);
    }

    private static void waits() {
        c.sentence("calls", "3 WAIT: the least child that has ENDED is ABSENT; answers it + 256 * its code; NONE, if"
                + " it has no children, else it waits.");
        Script s = new Script();
        s.kept(Script.WAIT);
        s.call(Script.FORK).add("beqz a0, 1f").call(Script.FORK).add("beqz a0, 2f").call(Script.FORK).add("beqz a0, 3f")
                .call(Script.SLEEP, 5);
        for (int i = 0; i < 4; i++) {
            s.kept(Script.WAIT);
        }
        s.stay().add("1: ").call(Script.SLEEP, 3).call(Script.EXIT, 255).add("2: ").call(Script.SLEEP, 2)
                .call(Script.EXIT, 0);
        s.add("3: ").call(Script.SLEEP, 9).call(Script.EXIT, 7);
        TimeMachine x = s.booted(c);
        x.run(1000);
        x.outside(3, 2, 0);
        x.run(1000);
        x.outside(3, 1, 0);
        x.run(1000);
        c.same("both have ENDED", x.process(1, 0) + x.process(2, 0), 6);
        x.outside(3, 2, 0);
        x.run(1000);
        c.answers("the least first, though it ended later", x, 0, 0, NONE, 1 + 256 * 255, 2);
        c.same("it waits for the third", x.process(0, 7), 3);
        c.same("ABSENT", x.process(1, 0) + x.process(2, 0), 0);
        x.outside(3, 4, 0);
        x.run(1000);
        c.answers("then", x, 0, 3, 3 + 256 * 7, NONE);
        c.same("processes", x.count(11), 1);
    }

    private static void selves() {
        c.sentence("calls", "4 SELF: its number.");
        TimeMachine x = c.booted(MANY.replace("2: j 2b", "li a7, 4\necall\nli a7, 21\necall"));
        x.run(1000);
        for (int p = 0; p < 16; p++) {
            c.same("process " + p + " waits", x.process(p, 7), 21);
            c.same("its number", x.register(p, 10), p);
        }
    }

    private static void heapBounds() {
        c.sentence("calls", "if this is not below its beginning nor above 61440 - 1024 (else INVALID)");
        Script s = new Script();
        int[] given = {2047, 2048, 60416, 60417, 61440, 65536, -1, Integer.MIN_VALUE, Integer.MAX_VALUE, 0, 60415, 2049,
            2048};
        int[] due = {INVALID, 2048, 2048, INVALID, INVALID, INVALID, INVALID, INVALID, INVALID, INVALID, 60416, 60415,
            2049};
        for (int a : given) {
            s.kept(Script.GROW, a);
        }
        TimeMachine x = s.stay().booted(c);
        x.run(1000);
        c.answers("answers", x, 0, 0, due);
        c.same("where it ends", x.process(0, 6), 2048);
        c.same("pages", x.process(0, 5), 6);
    }

    private static void heapPages() {
        c.sentence("calls", "(signed; a page that is partly in it is there)");
        int[] ends = {2048, 2049, 3071, 3072, 3073, 60415, 60416};
        int[] pages = {0, 1, 1, 1, 2, 57, 57};
        for (int i = 0; i < ends.length; i++) {
            TimeMachine x = new Script().call(Script.GROW, ends[i]).stay().booted(c);
            x.run(100);
            c.same("pages up to " + ends[i], x.process(0, 5), 6 + pages[i]);
            c.same("the last page", x.peek(0, 2048 + 1024 * pages[i] - 1), 0);
            c.same("no page behind", x.peek(0, 2048 + 1024 * pages[i]), -1);
        }
        c.sentence("calls", "pages that are new have 0 and rights 3 (FULL, if there are not as many frames), those no"
                + " more needed are absent");
        String touch = "li t0, 3000\nli t1, 7\nsb t1, 0(t0)";
        Script s = new Script().call(Script.GROW, 4096).add(touch).call(Script.GROW, 3072)
                .add("li t0, 3000\nlbu s0, 0(t0)");
        s.call(Script.GROW, 2048).call(Script.GROW, 3072).add("li t0, 3000\nlbu s1, 0(t0)\nj 2100");
        TimeMachine x = s.booted(c);
        x.run(100);
        x.go((int) x.count(1) - 1);
        c.same("a page that stays", x.register(0, 8), 7);
        c.same("one that is new again", x.register(0, 9), 0);
        c.same("it may not be carried out", x.count(2), 0);
        x.run(1);
        c.same("it may not be carried out", x.count(2), -1);
    }

    private static void heapFrames() {
        c.sentence("calls", "(FULL, if there are not as many frames)");
        String less = "li a7, 14\nli a0, 59392\necall\n";
        String more = "li a0, 60416\nli a7, 14\necall\n";
        String end = "bltz a0, 1f\nli a0, 0\n1: li a7, 0\necall";
        c.same("one frame for one page", crowd.code(6, less + more + end), 0);
        c.same("none for one page", crowd.code(7, less + more + end), FULL & 255);
        String two = less.replace("59392", "58368");
        c.same("two for two", crowd.code(5, two + more + end), 0);
        c.same("one for two", crowd.code(6, two + more + end), FULL & 255);
        c.same("none for none", crowd.code(7, more + end), 0);
        // What was FULL changes nothing: the heap ends where it ended.
        c.same("where it ends", crowd.code(7, less + more + less + "srli a0, a0, 10\nli a7, 0\necall"), 58);
    }

    private static void yields() {
        c.sentence("calls", "15 YIELD: the next READY process behind it in the ring is the current one (itself, if"
                + " there is no other); answers 0.");
        TimeMachine x = c.booted("li a0, 5\nli a7, 15\necall\nmv s0, a0");
        x.run(3);
        c.same("itself", x.count(2), 0);
        c.same("answers 0", x.register(0, 10), 0);
        TimeMachine y = c.booted(MANY.replace("2: j 2b", "2: li a7, 15\necall\nj 2b"));
        y.run(62);
        int current = (int) y.count(2);
        for (int i = 0; i < 40; i++) {
            while (y.count(2) == current) {
                y.run(1);
            }
            c.same("the next one", y.count(2), (current + 1) % 16);
            current = (int) y.count(2);
        }
        TimeMachine z = c.booted(PAIR.replace("1: li a7, 21\necall", "1: li a7, 15\necall\nj 1b"));
        z.run(50);
        c.same("the other one waits", z.process(0, 0), 2);
        c.same("itself", z.count(2), 1);
    }

    private static void signalNumbers() {
        c.sentence("calls", "16 SIGNAL: b (1 .. 15) is pending for process a (0 .. 15; INVALID; NONE, if it is ABSENT"
                + " or has ENDED); answers 0.");
        Script s = new Script().call(Script.HANDLER, 1, "h").call(Script.HANDLER, 15, "h").call(Script.FORK)
                .add("beqz a0, 1f");
        s.call(Script.YIELD);
        int[][] given = {{0, 0}, {0, 16}, {0, -1}, {16, 1}, {-1, 1}, {16, 16}, {15, 1}, {15, 15}, {1, 1}, {0, 1},
            {0, 15}, {2, 0}};
        int[] due = {INVALID, INVALID, INVALID, INVALID, INVALID, INVALID, NONE, NONE, NONE, 0, 0, INVALID};
        for (int[] it : given) {
            s.kept(Script.SIGNAL, it[0], it[1]);
        }
        s.stay().add("1: ").call(Script.EXIT, 3).add("h: addi s1, s1, 1").call(Script.BACK);
        TimeMachine x = s.booted(c);
        x.run(1000);
        c.same("the child has ENDED", x.process(1, 0), 3);
        c.answers("answers", x, 0, 0, due);
        c.same("waits", x.process(0, 7), 21);
    }

    private static void handlerNumbers() {
        c.sentence("calls", "17 HANDLER: that of signal a (1 .. 15 but 9) is b; answers what it was.");
        Script s = new Script();
        int[] given = {0, -1, 16, 9, 1, 15, 8, 10, 1, 15, 15, 15, Integer.MIN_VALUE};
        int[] address = {4, 4, 4, 4, 100, -1, 7, 1, 200, 300, 0, 5, 5};
        int[] due = {INVALID, INVALID, INVALID, INVALID, 0, 0, 0, 0, 100, -1, 300, 0, INVALID};
        for (int i = 0; i < given.length; i++) {
            s.kept(Script.HANDLER, given[i], address[i]);
        }
        TimeMachine x = s.stay().booted(c);
        x.run(1000);
        c.answers("answers", x, 0, 0, due);
    }

    private static void backs() {
        c.sentence("calls", "(INVALID, when it is within none); it answers nothing, and the place is that saved.");
        TimeMachine x = c.booted("li a7, 18\nli a0, 5\necall\nmv s0, a0\nli a7, 17\nli a0, 3\nla a1, h\necall\n"
                + "li a7, 16\nli a0, 0\nli a1, 3\n"
                + "ecall\nli s1, 6\nli a7, 21\necall\nh: li a7, 18\necall");
        x.run(4);
        c.same("within none", x.register(0, 8), INVALID);
        x.run(9);
        int place = x.register(0, 32);
        c.same("pending", x.process(0, 3), 1 << 3);
        x.run(1);
        c.same("within", x.process(0, 4), 1);
        x.run(2);
        c.same("the place", x.register(0, 32), place);
        c.same("it answers nothing", x.register(0, 10), 0);
        c.same("x17 as it was saved", x.register(0, 17), 16);
        x.run(1);
        c.same("it goes on", x.register(0, 9), 6);
    }

    private static void sleeps() {
        c.sentence("calls", "it sleeps towards the CLOCK + a (unsigned) now; it waits while the CLOCK is less than"
                + " that");
        Script s = new Script();
        s.kept(Script.SLEEP, 0);
        s.kept(Script.SLEEP, 1);
        s.kept(Script.SLEEP, -1);
        s.kept(Script.SLEEP, 0x80000000);
        TimeMachine x = s.stay().booted(c);
        x.outside(3, 100, 0);
        x.run(100);
        c.same("0 does not wait, 1 does", x.register(0, 10), 1);
        x.outside(3, 0, 0);
        c.same("101 is not reached", x.process(0, 0), 2);
        x.outside(3, 1, 0);
        c.same("101 is reached", x.process(0, 0), 1);
        x.run(100);
        x.outside(3, 0xffffffffL - 1, 0);
        c.same("one less", x.process(0, 0), 2);
        x.outside(3, 1, 0);
        c.same("unsigned", x.process(0, 0), 1);
        x.run(100);
        x.outside(3, 0x7fffffff, 0);
        c.same("one less", x.process(0, 0), 2);
        x.outside(3, 1L << 40, 0);
        c.same("far more", x.process(0, 0), 1);
        x.run(100);
        c.answers("answers", x, 0, 0, 0, 0, 0, 0);
        c.same("all are over", x.process(0, 7), 21);
    }

    private static void sleepsOn() {
        c.sentence("calls", "19 SLEEP: if it sleeps towards nothing");
        // A handler's own SLEEP goes on with what it sleeps towards already.
        Script s = new Script().call(Script.HANDLER, 3, "h").call(Script.SLEEP, 10).add("li s0, 1").stay();
        s.add("h: ").call(Script.SLEEP, 50).add("la t0, k\nli t1, 1\nsw t1, 0(t0)").call(Script.BACK)
                .data("k: .word 0");
        TimeMachine x = s.booted(c);
        x.run(100);
        x.outside(2, 0, 3);
        x.run(100);
        c.same("the handler waits", x.process(0, 4), 1);
        x.outside(3, 10, 0);
        x.run(100);
        c.same("its SLEEP is over", Checks.word(x, 0, x.label(0, 2)), 1);
        c.same("then it sleeps anew", x.process(0, 7), 19);
        x.outside(3, 9, 0);
        c.same("towards ten more", x.process(0, 0), 2);
        x.outside(3, 1, 0);
        x.run(100);
        c.same("over", x.register(0, 8), 1);
    }

    private static void clocks() {
        c.sentence("calls", "20 CLOCK: answers its lower 32 bits, the upper ones come into x11.");
        TimeMachine x = c.booted("1: li a0, 9\nli a1, 9\nli a7, 20\necall\nj 1b");
        long[] steps = {0, 0xffffffffL, 1, 1L << 40, 0x80000000L};
        long clock = 0;
        for (long step : steps) {
            x.outside(3, step, 0);
            clock += step;
            x.run(4);
            c.same("x10", x.register(0, 10), (int) clock);
            c.same("x11", x.register(0, 11), (int) (clock >> 32));
            x.run(1);
        }
    }

    private static void randoms() {
        c.sentence("calls", "21 RANDOM: the oldest of the random words that came goes, and is answered; it waits"
                + " while there is none.");
        TimeMachine x = c.booted("li a7, 21\n1: ecall\nj 1b");
        for (int i = 0; i < 16; i++) {
            c.same("a word", x.outside(4, 0xfffffff0L + i, 0), 0);
        }
        x.run(1);
        for (int i = 0; i < 16; i++) {
            c.same("words that wait", x.count(7), 16 - i);
            x.run(1);
            c.same("the oldest", x.register(0, 10), (int) (0xfffffff0L + i));
            x.run(1);
        }
        c.same("none", x.count(7), 0);
        x.run(1);
        c.same("it waits", x.process(0, 7), 21);
        x.outside(4, 3, 0);
        x.outside(4, 4, 0);
        x.run(1);
        c.same("the oldest", x.register(0, 10), 3);
    }

    private static void noFrames() {
        c.sentence("calls", "a store, or a call, that finds none is the signal 7, taken as above (nothing else is"
                + " done then).");
        String handled = "li a7, 17\nli a0, 7\nla a1, 8f\necall\n";
        String end = "\nli a7, 0\nli a0, 1\necall\n8: li a7, 0\nadd a0, a0, s6\necall";
        String[] stores = {"li t0, 16384\nsb t0, 0(t0)", "li t0, 16384\nsh t0, 0(t0)", "li t0, 16384\nsw t0, 0(t0)",
            "li t0, 16384\namoadd.w s6, t0, (t0)", "li a5, 16384\nc.sw a5, 0(a5)",
            "li t0, 16384\nlr.w t1, (t0)\nsc.w s6, t0, (t0)"};
        for (String store : stores) {
            c.same("without a handler, " + store, crowd.code(7, store + end), 128 + 7);
            c.same("with one, " + store, crowd.code(7, handled + "li s6, 20\n" + store + end), 27);
            c.same("with a frame, " + store, crowd.code(6, handled + "li s6, 20\n" + store + end), 1);
        }
        c.same("a conditional one that is not done", crowd.code(7, "li t0, 16384\nsc.w s6, t0, (t0)" + end), 1);
        c.same("PIPE", crowd.code(7, handled + "li a0, 16384\nli a7, 5\necall" + end), 7);
        c.same("READ", crowd.code(7, handled + "li a0, 2\nli a1, 16384\nli a2, 1\nli a7, 6\necall" + end), 7);
        c.same("READ of no bytes", crowd.code(7, "li a0, 2\nli a1, 16384\nli a2, 0\nli a7, 6\necall" + end), 1);
        // The bytes that READ would have given are there still.
        String again = "\nli a7, 0\nli a0, 1\necall\n8: li a0, 2\nli a1, 8192\nli a2, 100\nli a7, 6\necall\nli a7, 0\n"
                + "ecall";
        c.same("nothing else is done", crowd.code(7, handled + "li a0, 2\nli a1, 16384\nli a2, 3\nli a7, 6\necall"
                + again), 8);
        // Nor has PIPE made descriptors.
        String dup = "\nli a7, 0\nli a0, 1\necall\n8: li a0, 0\nli a1, -1\nli a7, 9\necall\nli a7, 0\necall";
        c.same("nothing else is done", crowd.code(7, handled + "li a0, 16384\nli a7, 5\necall" + dup), 4);
    }

    private static void framesLast() {
        c.sentence("calls", "(of READ the bytes that come), which are asked for when nothing else is wrong");
        String end = "\nli a7, 0\necall";
        String read = "li a7, 6\nli a2, ";
        c.same("READ of eight that come, to one page", crowd.code(6, "li a0, 2\nli a1, 16376\n" + read + "512\necall"
                + end), 8);
        c.same("READ of eight that come, to two pages", crowd.code(6, "li a0, 2\nli a1, 16380\n" + read + "8\necall"
                + end), 128 + 7);
        c.same("READ of four, to the first of these", crowd.code(6, "li a0, 2\nli a1, 16380\n" + read + "4\necall"
                + end), 4);
        c.same("BAD first", crowd.code(7, "li a0, 9\nli a1, 16384\n" + read + "8\necall" + end), -1 & 255);
        c.same("ADDRESS first", crowd.code(7, "li a0, 2\nli a1, 0\n" + read + "8\necall" + end), -14 & 255);
        c.same("INVALID first", crowd.code(7, "li a0, 2\nli a1, 16384\n" + read + "513\necall" + end), INVALID & 255);
        c.same("a wrong place of PIPE first", crowd.code(7, "li a0, 16386\nli a7, 5\necall" + end), INVALID & 255);
        String fill = "li s6, 12\n8: li a0, 0\nli a1, -1\nli a7, 9\necall\naddi s6, s6, -1\nbnez s6, 8b\n";
        c.same("FULL first", crowd.code(7, fill + "li a0, 16384\nli a7, 5\necall" + end), FULL & 255);
        c.same("PIPE over two pages, the second its own", crowd.code(6, "li a0, 8188\nli a7, 5\necall" + end), 0);
        c.same("PIPE over two pages, with one frame", crowd.code(6, "li a0, 16380\nli a7, 5\necall" + end), 128 + 7);
        c.same("PIPE over two pages, with two", crowd.code(5, "li a0, 16380\nli a7, 5\necall" + end), 0);
        c.same("PIPE up to a page's end", crowd.code(6, "li a0, 16376\nli a7, 5\necall" + end), 0);
        c.same("READ of a page's first byte", crowd.code(6, "li a0, 2\nli a1, 16384\n" + read + "1\necall" + end), 1);
        c.same("READ of a page's last byte", crowd.code(6, "li a0, 2\nli a1, 16383\n" + read + "1\necall" + end), 1);
        c.same("READ of both, with one", crowd.code(6, "li a0, 2\nli a1, 16383\n" + read + "2\necall" + end), 128 + 7);
        c.same("READ of both, with two", crowd.code(5, "li a0, 2\nli a1, 16383\n" + read + "2\necall" + end), 2);
        // A page that is its own, next to one that is still a copy.
        String own = "li t0, 1024\nsb t0, 0(t0)\nli a0, 2\n";
        c.same("READ to its own page", crowd.code(6, own + "li a1, 2040\n" + read + "8\necall" + end), 8);
        c.same("READ to the copy", crowd.code(6, own + "li a1, 2048\n" + read + "8\necall" + end), 128 + 7);
        c.same("READ to both", crowd.code(6, own + "li a1, 2044\n" + read + "8\necall" + end), 128 + 7);
        c.same("READ to both, with a frame", crowd.code(5, own + "li a1, 2044\n" + read + "8\necall" + end), 8);
    }

    private static void wrongBoots() {
        c.sentence("promise 10", "IllegalArgumentException when p is not 0 .. 3; else IllegalStateException when it"
                + " is not assembled.");
        TimeMachine x = new TimeMachine();
        for (int p : new int[] {-1, 4, Integer.MIN_VALUE, Integer.MAX_VALUE}) {
            c.argument("boot(" + p + ")", () -> x.boot(p));
        }
        for (int p = 0; p <= 3; p++) {
            int program = p;
            c.state("boot(" + p + ")", () -> x.boot(program));
        }
        c.same("nothing is booted", x.count(11), 0);
        Checks.assemble(x, 3, "nop");
        c.state("boot(2)", () -> x.boot(2));
        x.boot(3);
        c.same("booted", x.count(11), 1);
        Checks.assemble(x, 2, "foo");
        c.state("one with a fault is not assembled", () -> x.boot(2));
    }

    private static void boots() {
        c.sentence("promise 10", "the recording and the schedule are empty, END is 0 (the latest packed log and the"
                + " breaks stay).");
        TimeMachine x = c.booted("1: j 1b");
        Checks.replay(x, 0, 2, 0x0b, 5, 0x13, 9);
        Checks.watch(x, 7, "count == 3");
        x.pack();
        x.run(5);
        c.same("one is recorded, one scheduled", x.count(3) * 10 + x.count(5), 11);
        c.same("END", x.count(1), 3);
        x.boot(0);
        c.same("recorded", x.count(3), 0);
        c.same("scheduled", x.count(5), 0);
        c.same("END", x.count(1), 0);
        c.same("NOW", x.count(0), 0);
        c.same("the log", Checks.log(x), "010b05");
        c.same("the break", x.run(100), 3);
        c.same("the reason", x.reason(), 3 + 8 * 7);
        c.argument("what is behind END", () -> x.go(4));
    }

    private static void registers() {
        c.sentence("promise 22", "Register r of process p; r 32: its place (of one that has ENDED as they were). 0"
                + " when it is ABSENT, or there is none.");
        TimeMachine x = c.booted(PAIR);
        for (int r : new int[] {-1, 33, Integer.MIN_VALUE, Integer.MAX_VALUE}) {
            c.same("register " + r, x.register(0, r), 0);
        }
        for (int p : new int[] {-1, 1, 15, 16, Integer.MIN_VALUE, Integer.MAX_VALUE}) {
            c.same("x2 of process " + p, x.register(p, 2), 0);
            c.same("the place of process " + p, x.register(p, 32), 0);
        }
        x.run(100);
        int place = x.register(1, 32);
        c.same("a place", place > 0 ? 1 : 0, 1);
        x.outside(2, 1, 9);
        x.run(1);
        c.same("ENDED", x.process(1, 0), 3);
        c.same("x2 as it was", x.register(1, 2), 65536);
        c.same("x17 as it was", x.register(1, 17), 21);
        c.same("the place as it was", x.register(1, 32), place);
        x.run(2);
        c.same("ABSENT", x.process(1, 0), 0);
        c.same("x2", x.register(1, 2), 0);
        c.same("x17", x.register(1, 17), 0);
        c.same("the place", x.register(1, 32), 0);
        c.same("nothing booted", new TimeMachine().register(0, 2), 0);
        TimeMachine all = c.booted(MANY);
        all.run(200);
        c.same("the last process's x2", all.register(15, 2), 65536);
        c.same("behind its last register", all.register(15, 33), 0);
        c.same("before its first", all.register(15, -1), 0);
    }

    private static void told() {
        c.sentence("promise 23", "An ABSENT one has 0, but -1 for 1 and 7; one that has ENDED 0 for 3 .. 6, -1 for 7."
                + " -1 for another what.");
        int[] absent = {0, -1, 0, 0, 0, 0, 0, -1};
        TimeMachine none = new TimeMachine();
        TimeMachine x = c.booted(PAIR);
        x.run(100);
        x.outside(2, 1, 5);
        x.outside(2, 1, 9);
        c.same("pending", x.process(1, 3), 1 << 5 | 1 << 9);
        x.run(1);
        int[] ended = {3, 0, 128 + 9, 0, 0, 0, 0, -1};
        for (int what = 0; what <= 7; what++) {
            for (int p : new int[] {-1, 2, 15, 16, Integer.MIN_VALUE, Integer.MAX_VALUE}) {
                c.same("process(" + p + ", " + what + ")", x.process(p, what), absent[what]);
            }
            c.same("not booted, " + what, none.process(0, what), absent[what]);
            c.same("ENDED, " + what, x.process(1, what), ended[what]);
        }
        for (int what : new int[] {-1, 8, Integer.MIN_VALUE, Integer.MAX_VALUE}) {
            for (int p : new int[] {-1, 0, 1, 2, 16}) {
                c.same("process(" + p + ", " + what + ")", x.process(p, what), -1);
            }
            c.same("not booted, " + what, none.process(0, what), -1);
        }
        c.same("the code of one that is READY", x.process(0, 2), 0);
        waitedIn();
    }

    private static void waitedIn() {
        c.sentence("promise 23", "7 the call that it waits in (-1).");
        String[] lines = {"li a7, 1\necall\nbeqz a0, 1f\nli a7, 3\necall\n1: j 1b",
            "li a0, 0\nli a1, 61440\nli a2, 1\nli a7, 6\necall",
            "li a0, 61440\nli a7, 5\necall\nli a0, 3\nli a1, 61440\nli a2, 512\nli a7, 7\necall\nli a0, 3\necall",
            "li a0, 1\nli a7, 19\necall",
            "li a7, 21\necall"};
        int[] calls = {3, 6, 7, 19, 21};
        for (int i = 0; i < calls.length; i++) {
            TimeMachine x = c.booted(lines[i]);
            c.same("before", x.process(0, 7), -1);
            for (int ticks = 0; ticks < 100 && x.process(0, 0) == 1; ticks++) {
                c.same("READY", x.process(0, 7), -1);
                x.run(1);
            }
            c.same("WAITING", x.process(0, 0), 2);
            c.same("the call", x.process(0, 7), calls[i]);
            x.outside(2, 0, 9);
            c.same("READY by a signal", x.process(0, 7), -1);
        }
    }

    private static void peeks() {
        c.sentence("promise 24", "The byte at an address of the space of process p; -1 when it has no such page.");
        TimeMachine x = c.booted(".byte 255, 1\n.data\n.byte 128");
        int[] at = {0, 1, 2, 1023, 1024, 1025, 2047, 2048, 61439, 61440, 65535, 65536, -1, Integer.MIN_VALUE,
            Integer.MAX_VALUE, 65536 + 1024};
        int[] due = {255, 1, 0, 0, 128, 0, 0, -1, -1, 0, 0, -1, -1, -1, -1, -1};
        for (int i = 0; i < at.length; i++) {
            c.same("peek(0, " + at[i] + ")", x.peek(0, at[i]), due[i]);
        }
        for (int p : new int[] {-1, 1, 15, 16}) {
            c.same("peek(" + p + ", 0)", x.peek(p, 0), -1);
        }
        c.same("nothing booted", new TimeMachine().peek(0, 0), -1);
    }
}
