/** The boundary cases that the document names of open things: calls 5 to 13, promises 26 to 28. */
public final class EdgeThingsTest {
    private static final Checks c = new Checks();
    private static final int INVALID = -22;
    private static final int ADDRESS = -14;
    private static final int BAD = -1;
    private static final int MISSING = -2;
    private static final int THERE = -3;
    private static final int FULL = -4;
    private static final int BROKEN = -5;
    private static final int ROOM = -7;

    public static void main(String[] args) {
        openings();
        pipes();
        files();
        descriptors();
        leastDescriptors();
        pipesHeld();
        filesHeld();
        pipeOrder();
        pipeRoom();
        fileRoom();
        typedRoom();
        shownBytes();
        bad();
        emptyPipe();
        manyPipes();
        nothingRead();
        fileReads();
        consoleWaits();
        consoleEnds();
        broken();
        fullPipe();
        fileWrites();
        appends();
        nothingWritten();
        consoleWrites();
        hows();
        makes();
        empties();
        duplicates();
        closes();
        seeks();
        unlinks();
        renames();
        pipeAddresses();
        amounts();
        bytesThere();
        names();
        nameAddresses();
        twoNames();
        told();
        held();
        shown();
        c.finish();
    }

    private static Script script() {
        return new Script().data("b: .space 512").data("m: .ascii \"abcdefghij\"").data("n: .asciz \"f\"")
                .data("k: .asciz \"g\"")
                .data(".align 2").data("p: .word 0, 0");
    }

    private static TimeMachine run(Script s) {
        TimeMachine x = s.stay().booted(c);
        x.run(5000);
        return x;
    }

    private static void openings() {
        c.sentence("open things", "There are at most 48 openings, 8 PIPES, 16 FILES");
        // Three processes have twelve openings each, besides that of the console; their last child makes ten more.
        Script s = script().add("li s1, 3\n2: li s0, 12\n1: ").call(Script.OPEN, "n", 9)
                .add("addi s0, s0, -1\nbnez s0, 1b");
        s.call(Script.FORK).add("bnez a0, 4f\nli s3, 2\n3: ").call(Script.CLOSE, "s3")
                .add("addi s3, s3, 1\nli t0, 14\nbne s3, t0, 3b");
        s.add("addi s1, s1, -1\nbnez s1, 2b\nli s0, 10\n5: ").call(Script.OPEN, "n", 9)
                .add("addi s0, s0, -1\nbnez s0, 5b");
        s.kept(Script.PIPE, "p");
        s.kept(Script.OPEN, "n", 9);
        s.kept(Script.OPEN, "n", 9);
        s.kept(Script.DUP, 0, -1);
        s.kept(Script.CLOSE, 12);
        s.kept(Script.PIPE, "p");
        s.kept(Script.CLOSE, 11);
        s.kept(Script.PIPE, "p");
        s.add("4: ");
        TimeMachine x = run(s);
        c.answers("PIPE needs two, OPEN one, DUP none", x, 3, 0, FULL, 12, FULL, 13, 0, FULL, 0, 0);
        c.same("openings", x.count(13), 48);
    }

    private static void pipes() {
        c.sentence("open things", "at most 48 openings, 8 PIPES");
        Script s = script().call(Script.CLOSE, 0).call(Script.CLOSE, 1).add("li s0, 8\n1: ").call(Script.PIPE, "p")
                .add("mv s1, a0");
        s.add("addi s0, s0, -1\nbnez s0, 1b").call(Script.FORK).add("bnez a0, 3f\nli s3, 0\n2: ")
                .call(Script.CLOSE, "s3");
        s.add("addi s3, s3, 1\nli t0, 16\nbne s3, t0, 2b");
        s.kept(Script.PIPE, "p");
        s.kept(Script.SLEEP, 1);
        s.kept(Script.PIPE, "p");
        s.kept(Script.SLEEP, 1);
        s.kept(Script.PIPE, "p");
        s.stay().add("3: ").call(Script.SLEEP, 1).call(Script.CLOSE, 6).call(Script.SLEEP, 1).call(Script.CLOSE, 7);
        TimeMachine x = run(s);
        c.same("the eighth", x.register(0, 9), 0);
        c.same("openings", x.count(13), 16);
        c.same("descriptors are free, pipes are not", Script.answer(x, 1, 0), FULL);
        x.outside(3, 1, 0);
        x.outside(0, 0, 0);
        x.run(1000);
        c.same("one end holds a pipe", Script.answer(x, 1, 2), FULL);
        x.outside(3, 1, 0);
        x.outside(0, 0, 0);
        x.run(1000);
        c.same("without an opening it is free", Script.answer(x, 1, 4), 0);
    }

    private static void files() {
        c.sentence("open things", "16 FILES; one is there as long as something is said to hold it.");
        Script s = new Script().data("n: .asciz \"f0\"").data("k: .asciz \"k\"");
        s.add("li s0, 16\n1: ").call(Script.OPEN, "n", 25).add("mv s1, a0\nmv s2, a0").call(Script.CLOSE, "s2");
        s.add("la t0, n\nlbu t1, 1(t0)\naddi t1, t1, 1\nsb t1, 1(t0)\naddi s0, s0, -1\nbnez s0, 1b");
        s.kept(Script.OPEN, "k", 9);
        s.add("la t0, n\nli t1, 0x30\nsb t1, 1(t0)");
        s.kept(Script.OPEN, "n", 1);
        s.kept(Script.UNLINK, "n");
        s.kept(Script.OPEN, "k", 9);
        s.kept(Script.CLOSE, 2);
        s.kept(Script.OPEN, "k", 9);
        TimeMachine x = run(s);
        c.same("the sixteenth", x.register(0, 9), 2);
        c.answers("one that is there, one that its opening holds", x, 0, 0, FULL, 2, 0, FULL, 0, 2);
        c.same("files with names", x.count(12), 16);
    }

    private static void descriptors() {
        c.sentence("open things", "FULL: no descriptor free, or no opening, or no pipe or file.");
        Script s = script();
        for (int i = 2; i < 16; i++) {
            s.kept(Script.DUP, 0, -1);
        }
        s.kept(Script.DUP, 0, -1);
        s.kept(Script.DUP, 0, 15);
        s.kept(Script.OPEN, "n", 9);
        s.kept(Script.PIPE, "p");
        s.kept(Script.CLOSE, 9);
        s.kept(Script.PIPE, "p");
        s.kept(Script.OPEN, "n", 9);
        TimeMachine x = run(s);
        for (int i = 2; i < 16; i++) {
            c.answers("DUP", x, 0, i - 2, i);
        }
        c.answers("none is free, then one", x, 0, 14, FULL, 15, FULL, FULL, 0, FULL, 9);
        c.same("files with names", x.count(12), 1);
        c.same("openings", x.count(13), 2);
    }

    private static void leastDescriptors() {
        c.sentence("open things", "New descriptors are the least that are free.");
        Script s = script();
        s.kept(Script.CLOSE, 0);
        s.kept(Script.PIPE, "p");
        s.add("la t0, p\nlw s0, 0(t0)\nlw s1, 4(t0)");
        s.kept(Script.DUP, 1, 7);
        s.kept(Script.OPEN, "n", 9);
        s.kept(Script.CLOSE, 2);
        s.kept(Script.DUP, 1, -1);
        s.kept(Script.OPEN, "n", 9);
        TimeMachine x = run(s);
        c.answers("answers", x, 0, 0, 0, 0, 7, 3, 0, 2, 4);
        c.same("reading", x.register(0, 8), 0);
        c.same("writing", x.register(0, 9), 2);
        leastOfAll();
    }

    /** Each descriptor in its turn is the least that is free, for each call that makes one. */
    private static void leastOfAll() {
        for (int d = 0; d < 16; d++) {
            Script s = script();
            for (int i = 2; i < 16; i++) {
                s.call(Script.DUP, 1, i);
            }
            int other = d == 1 ? 0 : 1;
            int second = Math.min(15, d + 2);
            s.call(Script.CLOSE, d).call(Script.CLOSE, second);
            s.kept(Script.DUP, other, -1);
            s.call(Script.CLOSE, d);
            s.kept(Script.OPEN, "n", 11);
            s.call(Script.CLOSE, d);
            s.kept(Script.PIPE, "p");
            s.add("la t0, p\nlw s0, 0(t0)\nlw s1, 4(t0)");
            TimeMachine x = run(s);
            c.answers("the least is " + d, x, 0, 0, d, d, d < second ? 0 : FULL);
            c.same("reading", x.register(0, 8), d < second ? d : 0);
            c.same("writing", x.register(0, 9), d < second ? second : 0);
        }
    }

    private static void pipesHeld() {
        c.sentence("open things", "descriptors hold it. Its openings hold a pipe");
        Script s = script().call(Script.PIPE, "p").call(Script.DUP, 2, 9).call(Script.WRITE, 3, "m", 4)
                .call(Script.CLOSE, 2);
        s.kept(Script.WRITE, 3, "m", 1);
        s.kept(Script.CLOSE, 3);
        s.kept(Script.READ, 9, "b", 100);
        s.kept(Script.READ, 9, "b", 100);
        TimeMachine x = run(s);
        c.answers("one descriptor holds the reading end", x, 0, 0, 1, 0, 5, 0);
        c.same("openings", x.count(13), 2);
        c.same("a new pipe is empty", pipeAgain(), 0);
    }

    /** How many bytes a pipe has whose place another one had. */
    private static int pipeAgain() {
        Script s = script().call(Script.PIPE, "p").call(Script.WRITE, 3, "m", 4).call(Script.CLOSE, 3)
                .call(Script.CLOSE, 2);
        TimeMachine x = run(s.call(Script.PIPE, "p"));
        return x.descriptor(0, 2, 2);
    }

    private static void filesHeld() {
        c.sentence("open things", "its NAME and its openings hold a file.");
        Script s = script().call(Script.OPEN, "n", 10).call(Script.WRITE, 2, "m", 3).call(Script.CLOSE, 2);
        s.kept(Script.OPEN, "n", 1);
        s.kept(Script.UNLINK, "n");
        s.kept(Script.READ, 2, "b", 9);
        s.kept(Script.CLOSE, 2);
        s.kept(Script.OPEN, "n", 1);
        s.kept(Script.OPEN, "n", 9);
        s.kept(Script.READ, 2, "b", 9);
        TimeMachine x = run(s);
        c.answers("its name, then its opening, then nothing", x, 0, 0, 2, 0, 3, 0, MISSING, 2, 0);
    }

    private static void pipeOrder() {
        c.sentence("open things", "A PIPE has up to 512 bytes, that go out as they came in.");
        // 500 in, 400 out, 400 in: the bytes go round where the pipe stands.
        StringBuilder bytes = new StringBuilder("w: .byte 0");
        for (int i = 1; i < 500; i++) {
            bytes.append(", ").append(i * 7);
        }
        Script s = script().data(bytes.toString()).call(Script.PIPE, "p").call(Script.WRITE, 3, "w", 500)
                .call(Script.READ, 2, "b", 400);
        TimeMachine x = run(s.call(Script.WRITE, 3, "w", 400).call(Script.READ, 2, "b", 99));
        c.same("bytes", x.descriptor(0, 2, 2), 401);
        c.same("the last of the first ones", x.held(0, 2, 0), 499 * 7 & 255);
        for (int i = 0; i < 400; i++) {
            c.same("byte " + i, x.held(0, 2, 1 + i), i * 7 & 255);
        }
        c.same("behind", x.held(0, 2, 401), -1);
        c.same("what was read", x.peek(0, x.label(0, 1) + 98), 498 * 7 & 255);
    }

    private static void pipeRoom() {
        c.sentence("open things", "A PIPE has up to 512 bytes");
        Script s = script().call(Script.PIPE, "p");
        s.kept(Script.WRITE, 3, "b", 511);
        s.kept(Script.WRITE, 3, "b", 1);
        s.kept(Script.WRITE, 3, "b", 1);
        TimeMachine x = run(s);
        c.answers("512 go in", x, 0, 0, 511, 1);
        c.same("one more waits", x.process(0, 7), 7);
        c.same("bytes", x.descriptor(0, 2, 2), 512);
        Script t = script().call(Script.PIPE, "p");
        t.kept(Script.WRITE, 3, "b", 512);
        t.kept(Script.READ, 2, "b", 512);
        t.kept(Script.WRITE, 3, "b", 512);
        x = run(t);
        c.answers("all at once", x, 0, 0, 512, 512, 512);
    }

    private static void fileRoom() {
        c.sentence("open things", "A FILE has up to 512 bytes.");
        Script s = script().call(Script.OPEN, "n", 11);
        s.kept(Script.WRITE, 2, "b", 511);
        s.kept(Script.WRITE, 2, "b", 2);
        s.kept(Script.WRITE, 2, "b", 1);
        s.kept(Script.WRITE, 2, "b", 1);
        s.kept(Script.SEEK, 2, 1, 0);
        s.kept(Script.WRITE, 2, "b", 512);
        s.kept(Script.WRITE, 2, "b", 511);
        s.kept(Script.SEEK, 2, 0, 0);
        s.kept(Script.WRITE, 2, "b", 512);
        TimeMachine x = run(s);
        c.sentence("open things", "ROOM: a file would be too long.");
        c.answers("answers", x, 0, 0, 511, ROOM, 1, ROOM, 1, ROOM, 511, 0, 512);
        c.same("bytes", x.descriptor(0, 2, 2), 512);
        c.same("position", x.descriptor(0, 2, 3), 512);
    }

    private static void typedRoom() {
        c.sentence("open things", "The CONSOLE has TYPED bytes, up to 512, that were not read");
        TimeMachine x = c.booted("li a0, 0\nli a1, 61440\nli a2, 3\nli a7, 6\necall\n1: j 1b");
        for (int i = 0; i < 63; i++) {
            c.same("typed", x.outside(1, 0x0101010101010101L * i, 8), 0);
        }
        c.same("504 and one", x.outside(1, 0x41, 1), 0);
        c.same("505 and eight", x.outside(1, 0x4242424242424242L, 8), 1);
        c.same("none of them came", x.count(9), 505);
        c.same("505 and seven", x.outside(1, 0x43434343434343L, 7), 0);
        c.same("512", x.count(9), 512);
        c.same("one more", x.outside(1, 0x44, 1), 1);
        c.same("the last", x.held(0, 0, 511), 0x43);
        c.same("behind it", x.held(0, 0, 512), -1);
        x.run(10);
        c.same("three were read", x.count(9), 509);
        c.same("four have no room", x.outside(1, 0x45454545, 4), 1);
        c.same("three have", x.outside(1, 0x454545, 3), 0);
        c.same("the last", x.held(0, 0, 511), 0x45);
    }

    private static void shownBytes() {
        c.sentence("open things", "and SHOWN ones: the latest 2048.");
        Script s = script().add("la t0, b\nli t1, 1\nsb t1, 0(t0)").call(Script.WRITE, 1, "b", 512)
                .add("la t0, b\nsb zero, 0(t0)");
        s.call(Script.WRITE, 1, "b", 512).call(Script.WRITE, 1, "b", 512).call(Script.WRITE, 1, "b", 511).add("e: ");
        s.call(Script.WRITE, 1, "m", 1).call(Script.WRITE, 1, "m", 2).call(Script.WRITE, 1, "b", 512);
        TimeMachine x = s.stay().booted(c);
        c.runTo(x, x.label(0, 0));
        c.same("2047", x.count(8), 2047);
        c.same("the oldest", x.shown(0), 1);
        c.same("the latest", x.shown(2046), 0);
        c.same("behind", x.shown(2047), -1);
        x.run(6);
        c.same("2048", x.count(8), 2048);
        c.same("the oldest", x.shown(0), 1);
        c.same("the latest", x.shown(2047), 'a');
        c.same("behind", x.shown(2048), -1);
        x.run(6);
        c.same("2050 in all", x.count(8), 2050);
        c.same("the oldest is gone", x.shown(0), 0);
        c.same("one before", x.shown(2045), 'a');
        c.same("the latest", x.shown(2047), 'b');
        c.same("behind", x.shown(2048), -1);
        x.run(100);
        c.same("in all", x.count(8), 2562);
        c.same("it is kept", x.shown(2048 - 513), 'b');
    }

    private static void bad() {
        c.sentence("open things", "BAD: no such descriptor, or not one for this.");
        Script s = script().call(Script.PIPE, "p").call(Script.OPEN, "n", 9).call(Script.OPEN, "n", 2);
        int[] none = {6, 15, 16, -1, Integer.MIN_VALUE, Integer.MAX_VALUE, 256};
        for (int d : none) {
            s.kept(Script.READ, d, "b", 1);
            s.kept(Script.WRITE, d, "b", 1);
            s.kept(Script.CLOSE, d);
            s.kept(Script.DUP, d, -1);
            s.kept(Script.SEEK, d, 0, 0);
        }
        // A pipe's ends, and files that are open for one thing only.
        s.kept(Script.READ, 3, "b", 1);
        s.kept(Script.WRITE, 2, "b", 1);
        s.kept(Script.WRITE, 4, "b", 1);
        s.kept(Script.READ, 5, "b", 1);
        s.kept(Script.READ, 5, "b", 0);
        s.kept(Script.WRITE, 4, "b", 0);
        s.kept(Script.SEEK, 2, 0, 0);
        s.kept(Script.SEEK, 3, 0, 0);
        s.kept(Script.SEEK, 0, 0, 0);
        TimeMachine x = run(s);
        for (int i = 0; i < 5 * none.length + 9; i++) {
            c.answers("BAD", x, 0, i, BAD);
        }
        c.same("openings", x.count(13), 5);
    }

    private static void emptyPipe() {
        c.sentence("open things", "of a pipe: as many as there are, at most n; without any: 0, if no opening writes,"
                + " else WAIT (n 0: 0 always).");
        Script s = script().call(Script.PIPE, "p").call(Script.WRITE, 3, "m", 5);
        s.kept(Script.READ, 2, "b", 0);
        s.kept(Script.READ, 2, "b", 2);
        s.kept(Script.READ, 2, "b", 512);
        s.kept(Script.READ, 2, "b", 0);
        s.kept(Script.CLOSE, 3);
        s.kept(Script.READ, 2, "b", 3);
        s.kept(Script.READ, 2, "b", 0);
        TimeMachine x = run(s);
        c.answers("answers", x, 0, 0, 0, 2, 3, 0, 0, 0, 0);
        Script w = script().call(Script.PIPE, "p");
        w.kept(Script.READ, 2, "b", 1);
        x = run(w);
        c.same("WAIT", x.process(0, 7), 6);
        // Two writing ends: while one is there, it waits.
        Script two = script().call(Script.PIPE, "p").call(Script.FORK).add("beqz a0, 1f").call(Script.CLOSE, 3);
        two.kept(Script.READ, 2, "b", 1);
        two.stay().add("1: ").call(Script.SLEEP, 1).call(Script.CLOSE, 3);
        x = run(two);
        c.same("WAIT", x.process(0, 7), 6);
        x.outside(3, 1, 0);
        x.run(100);
        c.answers("no opening writes", x, 0, 0, 0);
    }

    private static void manyPipes() {
        c.sentence("open things", "without any: 0, if no opening writes, else WAIT");
        // Each of six pipes in turn is the one that is empty, or full; the others have some bytes.
        for (int k = 0; k < 6; k++) {
            Script s = script();
            for (int i = 0; i < 6; i++) {
                s.call(Script.PIPE, "p").call(Script.WRITE, 3 + 2 * i, "b", 5 + i);
            }
            s.call(Script.READ, 2 + 2 * k, "b", 512);
            String lines = s.lines();
            TimeMachine x = run(script().add(lines).call(Script.READ, 2 + 2 * k, "b", 1));
            c.same("READ of pipe " + k, x.process(0, 7), 6);
            x = run(script().add(lines).call(Script.CLOSE, 3 + 2 * k).call(Script.READ, 2 + 2 * k, "b", 1)
                    .add("mv s0, a0"));
            c.same("without a writing end", x.process(0, 7) * 10 + x.register(0, 8), 210);
            x = run(script().add(lines).call(Script.WRITE, 3 + 2 * k, "b", 512).call(Script.WRITE, 3 + 2 * k, "b", 1));
            c.same("WRITE to pipe " + k, x.process(0, 7), 7);
            c.same("all but the last byte", x.descriptor(0, 3 + 2 * k, 2), 512);
            x = run(script().add(lines).call(Script.CLOSE, 2 + 2 * k).call(Script.WRITE, 3 + 2 * k, "b", 1)
                    .add("mv s0, a0"));
            c.same("without a reading end", x.process(0, 7) * 10 + x.register(0, 8), 210 + BROKEN);
            for (int i = 0; i < 6; i++) {
                c.same("bytes of pipe " + i, x.descriptor(0, 3 + 2 * i, 2), i == k ? 0 : 5 + i);
            }
        }
    }

    private static void nothingRead() {
        c.sentence("open things", "READING n bytes");
        // The bytes that come are as many as there are; what is behind them in memory stays.
        Script s = script().add("la t0, b\nli t1, 9\nsb t1, 2(t0)\nsb t1, 0(t0)").call(Script.PIPE, "p")
                .call(Script.WRITE, 3, "m", 2);
        s.kept(Script.READ, 2, "b", 5);
        TimeMachine x = run(s);
        int b = x.label(0, 1);
        c.answers("answers", x, 0, 0, 2);
        c.same("what came", x.peek(0, b) * 256 + x.peek(0, b + 1), 'a' * 256 + 'b');
        c.same("what stays", x.peek(0, b + 2), 9);
    }

    private static void fileReads() {
        c.sentence("open things", "Of a file: from the position on, at most n, and it becomes so many more.");
        Script s = script().call(Script.OPEN, "n", 11).call(Script.WRITE, 2, "m", 5);
        s.kept(Script.READ, 2, "b", 1);
        s.kept(Script.SEEK, 2, 4, 0);
        s.kept(Script.READ, 2, "b", 9);
        s.kept(Script.SEEK, 2, 0, 1);
        s.kept(Script.READ, 2, "b", 9);
        s.kept(Script.SEEK, 2, 512, 0);
        s.kept(Script.READ, 2, "b", 9);
        s.kept(Script.SEEK, 2, 0, 1);
        s.kept(Script.SEEK, 2, 0, 0);
        s.kept(Script.READ, 2, "b", 0);
        s.kept(Script.READ, 2, "b", 5);
        s.kept(Script.SEEK, 2, 0, 1);
        TimeMachine x = run(s);
        c.answers("answers", x, 0, 0, 0, 4, 1, 5, 0, 512, 0, 512, 0, 0, 5, 5);
        c.same("bytes", x.peek(0, x.label(0, 1) + 4), 'e');
    }

    private static void consoleWaits() {
        c.sentence("open things", "Of the console: as of a pipe, but while nothing was typed WAIT (n 0: 0 always,"
                + " nothing is taken)");
        Script s = script();
        s.kept(Script.READ, 0, "b", 0);
        s.kept(Script.READ, 0, "b", 5);
        s.kept(Script.READ, 0, "b", 0);
        s.kept(Script.READ, 0, "b", 1);
        TimeMachine x = run(s);
        c.answers("n 0", x, 0, 0, 0);
        c.same("WAIT", x.process(0, 7), 6);
        x.outside(1, 0x0441, 2);
        c.same("READY", x.process(0, 0), 1);
        x.run(100);
        c.answers("an END first, then n 0", x, 0, 1, 0, 0, 1);
        c.same("all is read", x.count(9), 0);
        Script end = script();
        end.kept(Script.READ, 0, "b", 0);
        x = end.stay().booted(c);
        x.outside(1, 4, 1);
        x.run(100);
        c.answers("n 0", x, 0, 0, 0);
        c.same("nothing is taken, not an END either", x.count(9), 1);
    }

    private static void consoleEnds() {
        c.sentence("open things", "byte 4, if it is met ahead of the n-th one, is an END: what is behind it stays, it"
                + " is taken and not given, also when it is the first (then 0 bytes are read).");
        int[] amounts = {1, 2, 3, 4};
        int[] given = {1, 2, 2, 2};
        int[] left = {5, 4, 3, 3};
        for (int i = 0; i < amounts.length; i++) {
            Script s = script();
            s.kept(Script.READ, 0, "b", amounts[i]);
            TimeMachine x = s.stay().booted(c);
            // a b END c d e
            x.outside(1, 0x616204636465L, 6);
            x.run(100);
            c.answers("READ of " + amounts[i], x, 0, 0, given[i]);
            c.same("what stays", x.count(9), left[i]);
            c.same("it is not given", x.peek(0, x.label(0, 0) + 2), 0);
        }
        Script s = script();
        s.kept(Script.READ, 0, "b", 3);
        s.kept(Script.READ, 0, "b", 3);
        s.kept(Script.READ, 0, "b", 3);
        s.kept(Script.READ, 0, "b", 3);
        TimeMachine x = s.stay().booted(c);
        // END END a b c END: the last END is not ahead of the third byte.
        x.outside(1, 0x040461626304L, 6);
        x.run(100);
        c.answers("answers", x, 0, 0, 0, 0, 3, 0);
        c.same("nothing stays", x.count(9), 0);
    }

    private static void broken() {
        c.sentence("open things", "BROKEN: a pipe to write into that no opening reads.");
        Script s = script().call(Script.PIPE, "p").call(Script.DUP, 2, 9);
        s.kept(Script.CLOSE, 2);
        s.kept(Script.WRITE, 3, "m", 1);
        s.kept(Script.CLOSE, 9);
        s.kept(Script.WRITE, 3, "m", 1);
        s.kept(Script.WRITE, 3, "m", 0);
        s.kept(Script.WRITE, 3, "b", 512);
        TimeMachine x = run(s);
        c.answers("answers", x, 0, 0, 0, 1, 0, BROKEN, BROKEN, BROKEN);
        // One that waits for room is told when the last one that reads goes.
        Script w = script().call(Script.PIPE, "p").call(Script.FORK).add("beqz a0, 1f").call(Script.CLOSE, 2)
                .call(Script.WRITE, 3, "b", 512);
        w.kept(Script.WRITE, 3, "m", 1);
        w.stay().add("1: ").call(Script.SLEEP, 1).call(Script.CLOSE, 2);
        x = run(w);
        c.same("it waits", x.process(0, 7), 7);
        x.outside(3, 1, 0);
        x.run(100);
        c.answers("BROKEN", x, 0, 0, BROKEN);
    }

    private static void fullPipe() {
        c.sentence("open things", "into a pipe: BROKEN; all, if it has room for them, else WAIT (n 0: 0 always,"
                + " unless broken).");
        Script s = script().call(Script.PIPE, "p").call(Script.FORK).add("beqz a0, 1f");
        s.kept(Script.WRITE, 3, "b", 510);
        s.kept(Script.WRITE, 3, "b", 2);
        s.kept(Script.WRITE, 3, "b", 0);
        s.kept(Script.WRITE, 3, "b", 3);
        s.stay().add("1: ").call(Script.SLEEP, 1).call(Script.READ, 2, "b", 2).call(Script.SLEEP, 1)
                .call(Script.READ, 2, "b", 1);
        TimeMachine x = run(s);
        c.answers("all, and n 0 when it is full", x, 0, 0, 510, 2, 0);
        c.same("it waits", x.process(0, 7), 7);
        x.outside(3, 1, 0);
        x.run(100);
        c.same("room for two is too little", x.process(0, 7), 7);
        c.same("none of them came", x.descriptor(0, 3, 2), 510);
        x.outside(3, 1, 0);
        x.run(100);
        c.answers("room for three", x, 0, 3, 3);
        c.same("bytes", x.descriptor(0, 3, 2), 512);
    }

    private static void fileWrites() {
        c.sentence("open things", "all, with 0 between its end and them; the position is behind them");
        Script s = script().call(Script.OPEN, "n", 11).call(Script.WRITE, 2, "m", 4);
        s.kept(Script.SEEK, 2, 1, 0);
        s.kept(Script.WRITE, 2, "m", 2);
        s.kept(Script.SEEK, 2, 0, 1);
        s.kept(Script.SEEK, 2, 6, 0);
        s.kept(Script.WRITE, 2, "m", 2);
        s.kept(Script.SEEK, 2, 0, 1);
        s.kept(Script.SEEK, 2, 511, 0);
        s.kept(Script.WRITE, 2, "m", 1);
        TimeMachine x = run(s);
        c.answers("answers", x, 0, 0, 1, 2, 3, 6, 2, 8, 511, 1);
        int[] due = {'a', 'a', 'b', 'd', 0, 0, 'a', 'b', 0};
        for (int i = 0; i < due.length; i++) {
            c.same("byte " + i, x.held(0, 2, i), due[i]);
        }
        c.same("0 up to them", x.held(0, 2, 510), 0);
        c.same("the last", x.held(0, 2, 511), 'a');
    }

    private static void appends() {
        c.sentence("open things", "(or, appending, at its end, which it becomes first)");
        Script s = script().call(Script.OPEN, "n", 15).call(Script.OPEN, "n", 2);
        s.kept(Script.WRITE, 3, "m", 5);
        s.kept(Script.SEEK, 2, 0, 1);
        s.kept(Script.WRITE, 2, "m", 2);
        s.kept(Script.SEEK, 2, 0, 1);
        s.kept(Script.SEEK, 2, 1, 0);
        s.kept(Script.WRITE, 2, "m", 0);
        s.kept(Script.SEEK, 2, 0, 1);
        s.kept(Script.WRITE, 2, "b", 505);
        s.kept(Script.WRITE, 2, "b", 1);
        s.kept(Script.WRITE, 2, "b", 0);
        TimeMachine x = run(s);
        c.answers("answers", x, 0, 0, 5, 0, 2, 7, 1, 0, 1, 505, ROOM, 0);
        c.same("bytes", Checks.held(x, 0, 2).substring(0, 7), "abcdeab");
    }

    private static void nothingWritten() {
        c.sentence("open things", "(n 0: nothing changes)");
        Script s = script().call(Script.OPEN, "n", 11).call(Script.WRITE, 2, "m", 2).call(Script.SEEK, 2, 9, 0);
        s.kept(Script.WRITE, 2, "m", 0);
        TimeMachine x = run(s);
        c.answers("answers", x, 0, 0, 0);
        c.same("its length", x.descriptor(0, 2, 2), 2);
        c.same("its position", x.descriptor(0, 2, 3), 9);
    }

    private static void consoleWrites() {
        c.sentence("open things", "To the console: all are shown. It answers n.");
        Script s = script();
        s.kept(Script.WRITE, 1, "m", 0);
        s.kept(Script.WRITE, 0, "m", 3);
        s.kept(Script.WRITE, 1, "b", 512);
        TimeMachine x = run(s);
        c.answers("answers", x, 0, 0, 0, 3, 512);
        c.same("shown", x.count(8), 515);
        c.same("the first", x.shown(0), 'a');
    }

    private static void hows() {
        c.sentence("open things", "how is 1 .. 63: 1, 2, 4 rights (1 or 2; 4 only with 2), 8 makes it, if it is"
                + " missing, 16 (with 8) it must be missing, 32 (with 2) takes its bytes away (else INVALID)");
        for (int part = 0; part < 4; part++) {
            Script s = script().call(Script.OPEN, "n", 9);
            for (int how = 16 * part; how < 16 * part + 16; how++) {
                s.kept(Script.OPEN, "n", how);
                s.call(Script.CLOSE, 3);
            }
            TimeMachine x = run(s);
            for (int how = 16 * part; how < 16 * part + 16; how++) {
                boolean writes = (how & 2) != 0;
                boolean good = (how & 3) != 0 && (writes || (how & 36) == 0) && ((how & 16) == 0 || (how & 8) != 0);
                c.answers("how " + how, x, 0, how - 16 * part, !good ? INVALID : (how & 16) != 0 ? THERE : 3);
            }
        }
        Script s = script();
        for (int how : new int[] {64, 65, -1, 1 + 64, Integer.MIN_VALUE + 1, Integer.MAX_VALUE, 1 << 16 | 1}) {
            s.kept(Script.OPEN, "n", how);
        }
        TimeMachine x = run(s);
        c.answers("others", x, 0, 0, INVALID, INVALID, INVALID, INVALID, INVALID, INVALID, INVALID);
    }

    private static void makes() {
        c.sentence("open things", "MISSING, THERE, FULL; answers the new descriptor, its position 0.");
        Script s = script();
        s.kept(Script.OPEN, "n", 1);
        s.kept(Script.OPEN, "n", 3);
        s.kept(Script.OPEN, "n", 2 + 32);
        s.kept(Script.OPEN, "n", 8 + 16 + 1);
        s.kept(Script.OPEN, "n", 8 + 16 + 1);
        s.kept(Script.OPEN, "n", 8 + 1);
        s.kept(Script.OPEN, "n", 4 + 2);
        TimeMachine x = run(s);
        c.answers("answers", x, 0, 0, MISSING, MISSING, MISSING, 2, THERE, 3, 4);
        c.sentence("open things", "MISSING: no file of that name. THERE: one already.");
        Script t = script().call(Script.OPEN, "n", 9).call(Script.UNLINK, "n");
        t.kept(Script.OPEN, "n", 1);
        t.kept(Script.OPEN, "k", 1);
        t.kept(Script.OPEN, "n", 25);
        t.kept(Script.OPEN, "n", 25);
        c.answers("one that lost its name is none", run(t), 0, 0, MISSING, MISSING, 3, THERE);
        c.same("rights", x.descriptor(0, 2, 4) * 100 + x.descriptor(0, 3, 4) * 10 + x.descriptor(0, 4, 4), 116);
        c.same("position", x.descriptor(0, 4, 3), 0);
        c.same("files", x.count(12), 1);
    }

    private static void empties() {
        c.sentence("open things", "32 (with 2) takes its bytes away");
        Script s = script().call(Script.OPEN, "n", 11).call(Script.WRITE, 2, "m", 5);
        s.kept(Script.OPEN, "n", 2 + 32);
        s.kept(Script.READ, 2, "b", 5);
        s.kept(Script.SEEK, 2, 0, 2);
        s.kept(Script.SEEK, 2, 3, 0);
        s.kept(Script.WRITE, 2, "m", 1);
        TimeMachine x = run(s);
        c.answers("answers", x, 0, 0, 3, 0, 0, 3, 1);
        c.same("0 where bytes were", x.held(0, 2, 0) + x.held(0, 2, 1) + x.held(0, 2, 2), 0);
        c.same("length", x.descriptor(0, 3, 2), 4);
        // One that is THERE keeps its bytes, as does one without a descriptor that is free.
        Script t = script().call(Script.OPEN, "n", 11).call(Script.WRITE, 2, "m", 5);
        t.kept(Script.OPEN, "n", 2 + 8 + 16 + 32);
        for (int d = 3; d < 16; d++) {
            t.call(Script.DUP, 0, -1);
        }
        t.kept(Script.OPEN, "n", 2 + 32);
        x = run(t);
        c.answers("answers", x, 0, 0, THERE, FULL);
        c.same("length", x.descriptor(0, 2, 2), 5);
    }

    private static void duplicates() {
        c.sentence("open things", "DUP: a new descriptor (b is -1), or b, is to the same opening as a (what b was to"
                + " goes; nothing changes if b is a): answers which (INVALID when b is not -1 .. 15; BAD, FULL).");
        Script s = script();
        int[][] given = {{0, -2}, {0, 16}, {0, Integer.MIN_VALUE}, {9, 16}, {9, 15}, {0, -1}, {0, 15}, {0, 0}, {15, 1},
            {2, 2}};
        for (int[] it : given) {
            s.kept(Script.DUP, it[0], it[1]);
        }
        s.call(Script.OPEN, "n", 11).call(Script.WRITE, 3, "m", 3);
        s.kept(Script.DUP, 3, 2);
        s.kept(Script.SEEK, 2, 0, 1);
        s.kept(Script.DUP, 0, 3);
        s.kept(Script.SEEK, 2, 1, 1);
        s.kept(Script.DUP, 0, 2);
        s.kept(Script.OPEN, "n", 1);
        TimeMachine x = run(s);
        c.answers("answers", x, 0, 0, INVALID, INVALID, INVALID, INVALID, BAD, 2, 15, 0, 1, 2, 2, 3, 3, 4, 2, 4);
        c.same("descriptors to the console", x.descriptor(0, 0, 1), 5);
        c.same("openings: what b was to goes", x.count(13), 2);
    }

    private static void closes() {
        c.sentence("open things", "CLOSE: answers 0; BAD.");
        Script s = script();
        s.kept(Script.CLOSE, 0);
        s.kept(Script.CLOSE, 0);
        s.kept(Script.CLOSE, 1);
        s.kept(Script.CLOSE, 16);
        s.kept(Script.CLOSE, -1);
        TimeMachine x = run(s);
        c.answers("answers", x, 0, 0, 0, BAD, 0, BAD, BAD);
        c.same("openings", x.count(13), 0);
    }

    private static void seeks() {
        c.sentence("open things", "SEEK: the position becomes b (c 0), itself and b (1), or the file's end and b (2):"
                + " answers it (INVALID for another c; BAD, also when it is no file, or it would be below 0 or above"
                + " 512).");
        Script s = script().call(Script.OPEN, "n", 10).call(Script.WRITE, 2, "m", 6);
        int[][] given = {{0, 0}, {512, 0}, {513, 0}, {-1, 0}, {0, 1}, {1, 1}, {-512, 1}, {-1, 1}, {512, 1}, {1, 1},
            {-6, 2}, {-7, 2}, {506, 2},
            {507, 2}, {0, 2}, {Integer.MAX_VALUE, 1}, {Integer.MIN_VALUE, 2}, {0, 3}, {0, -1}, {0, Integer.MAX_VALUE},
            {0, 1}};
        int[] due = {0, 512, BAD, BAD, 512, BAD, 0, BAD, 512, BAD, 0, BAD, 512, BAD, 6, BAD, BAD, INVALID, INVALID,
            INVALID, 6};
        for (int[] it : given) {
            s.kept(Script.SEEK, 2, it[0], it[1]);
        }
        TimeMachine x = run(s);
        for (int i = 0; i < due.length; i++) {
            c.answers("SEEK " + given[i][0] + ", " + given[i][1], x, 0, i, due[i]);
        }
        c.same("its length", x.descriptor(0, 2, 2), 6);
        Script t = script().call(Script.CLOSE, 0).call(Script.CLOSE, 1).call(Script.OPEN, "n", 11);
        t.kept(Script.WRITE, 0, "m", 4);
        t.kept(Script.SEEK, 0, -3, 2);
        t.kept(Script.READ, 0, "b", 2);
        t.kept(Script.DUP, 0, 9);
        t.kept(Script.CLOSE, 0);
        t.kept(Script.SEEK, 9, 0, 1);
        x = run(t);
        c.answers("where the console was", x, 0, 0, 4, 1, 2, 9, 0, 3);
    }

    private static void unlinks() {
        c.sentence("open things", "UNLINK: the file loses its name; answers 0; MISSING.");
        Script s = script();
        s.kept(Script.UNLINK, "n");
        s.call(Script.OPEN, "n", 9).call(Script.OPEN, "k", 9);
        s.kept(Script.UNLINK, "n");
        s.kept(Script.UNLINK, "n");
        s.kept(Script.UNLINK, 65536);
        s.kept(Script.UNLINK, "b");
        TimeMachine x = run(s);
        c.answers("answers", x, 0, 0, MISSING, 0, MISSING, ADDRESS, INVALID);
        c.same("files with names", x.count(12), 1);
        c.same("it is open still", x.descriptor(0, 2, 0), 3);
    }

    private static void renames() {
        c.sentence("open things", "RENAME: it gets the other one; another file that has that loses it; 0; MISSING.");
        Script s = script();
        s.kept(Script.RENAME, "n", "k");
        s.call(Script.OPEN, "n", 10).call(Script.WRITE, 2, "m", 1).call(Script.OPEN, "k", 10)
                .call(Script.WRITE, 3, "m", 2);
        s.kept(Script.RENAME, "n", "n");
        s.kept(Script.RENAME, "n", "k");
        s.kept(Script.OPEN, "n", 1);
        s.kept(Script.OPEN, "k", 1);
        s.kept(Script.RENAME, "n", "k");
        s.kept(Script.RENAME, "k", "n");
        s.kept(Script.UNLINK, "n");
        s.kept(Script.RENAME, "n", "k");
        TimeMachine x = run(s);
        c.answers("answers", x, 0, 0, MISSING, 0, 0, MISSING, 4, MISSING, 0, 0, MISSING);
        c.same("the one that got the name", x.descriptor(0, 4, 2), 1);
        c.same("the one that lost it", x.descriptor(0, 3, 2), 2);
        c.same("files with names", x.count(12), 0);
        // The file that was made first loses its name.
        Script t = script().call(Script.OPEN, "n", 10).call(Script.WRITE, 2, "m", 1).call(Script.OPEN, "k", 10);
        t.kept(Script.RENAME, "k", "n");
        t.kept(Script.OPEN, "n", 1);
        t.kept(Script.OPEN, "k", 1);
        x = run(t);
        c.answers("answers", x, 0, 0, 0, 4, MISSING);
        c.same("the one that got the name", x.descriptor(0, 4, 2), 0);
        c.same("files with names", x.count(12), 1);
    }

    private static void pipeAddresses() {
        c.sentence("calls", "5 PIPE: (a no multiple of 4: INVALID) the two new descriptors, reading and writing, come"
                + " into the words at a and a + 4; answers 0.");
        Script s = script();
        int[] given = {65529, 65530, 65531, 1, -1, 65532, 65536, 0, 2048, -4, 61436, 1016, 65528, 61440};
        int[] due = {INVALID, INVALID, INVALID, INVALID, INVALID, ADDRESS, ADDRESS, ADDRESS, ADDRESS, ADDRESS, ADDRESS,
            ADDRESS, 0, 0};
        for (int a : given) {
            s.kept(Script.PIPE, a);
        }
        TimeMachine x = run(s);
        c.answers("answers", x, 0, 0, due);
        c.same("words", Checks.word(x, 0, 65528) * 10 + Checks.word(x, 0, 65532), 23);
        c.same("words", Checks.word(x, 0, 61440) * 10 + Checks.word(x, 0, 61444), 45);
        c.same("openings", x.count(13), 5);
    }

    private static void amounts() {
        c.sentence("calls", "6 READ (descriptor a, to address b, c bytes, 0 .. 512), 7 WRITE (from address b)");
        Script s = script().call(Script.OPEN, "n", 11);
        for (int n : new int[] {-1, 513, Integer.MIN_VALUE, Integer.MAX_VALUE, 512, 0}) {
            s.kept(Script.WRITE, 2, "b", n);
        }
        s.call(Script.SEEK, 2, 0, 0);
        for (int n : new int[] {-1, 513, Integer.MIN_VALUE, Integer.MAX_VALUE, 512, 0}) {
            s.kept(Script.READ, 2, "b", n);
        }
        TimeMachine x = run(s);
        c.answers("WRITE", x, 0, 0, INVALID, INVALID, INVALID, INVALID, 512, 0);
        c.answers("READ", x, 0, 6, INVALID, INVALID, INVALID, INVALID, 512, 0);
    }

    private static void bytesThere() {
        c.sentence("calls", "ADDRESS if one of the c bytes is on no page that may be written, or read.");
        Script s = new Script().data("n: .asciz \"f\"").call(Script.OPEN, "n", 11).call(Script.WRITE, 2, 0, 512);
        int[][] given = {{65535, 1}, {65535, 2}, {65024, 512}, {65025, 512}, {65536, 1}, {65536, 0}, {-1, 1}, {-1, 2},
            {61439, 1}, {61439, 2}, {61440, 1},
            {2047, 1}, {2047, 2}, {3071, 1}, {3071, 2}, {0, 1}, {1023, 2}, {1024, 1}};
        for (int[] it : given) {
            s.call(Script.SEEK, 2, 0, 0);
            s.kept(Script.READ, 2, it[0], it[1]);
        }
        for (int[] it : given) {
            s.call(Script.SEEK, 2, 0, 0);
            s.kept(Script.WRITE, 2, it[0], it[1]);
        }
        // Its text takes more than a page; so the data is somewhat farther.
        TimeMachine x = s.stay().booted(c);
        x.run(5000);
        c.same("where the data is", x.program(0, 1), 2048);
        int[] read = {1, ADDRESS, 512, ADDRESS, ADDRESS, 0, ADDRESS, ADDRESS, ADDRESS, ADDRESS, 1, ADDRESS, ADDRESS, 1,
            ADDRESS, ADDRESS, ADDRESS,
            ADDRESS};
        int[] write = {1, ADDRESS, 512, ADDRESS, ADDRESS, 0, ADDRESS, ADDRESS, ADDRESS, ADDRESS, 1, 1, 2, 1, ADDRESS, 1,
            2, 1};
        for (int i = 0; i < given.length; i++) {
            c.answers("READ to " + given[i][0], x, 0, i, read[i]);
            c.answers("WRITE from " + given[i][0], x, 0, given.length + i, write[i]);
        }
    }

    private static void names() {
        c.sentence("calls", "A NAME in memory: 1 to 15 bytes 33 .. 126, then a 0 (else INVALID");
        Script s = new Script().data("e: .byte 0").data("f: .asciz \"!\"").data("g: .asciz \"~\"")
                .data("h: .asciz \" \"");
        s.data("i: .byte 127, 0").data("j: .asciz \"123456789012345\"").data("k: .asciz \"1234567890123456\"");
        s.data("l: .byte 0x61, 31, 0").data("o: .asciz \"12345678901234 \"").data("q: .byte 0x61, 255, 0")
                .data("r: .asciz \"ab c\"");
        for (String name : new String[] {"e", "f", "g", "h", "i", "j", "k", "l", "o", "q", "r"}) {
            s.kept(Script.OPEN, name, 9);
        }
        TimeMachine x = run(s);
        c.answers("answers", x, 0, 0, INVALID, 2, 3, INVALID, INVALID, 4, INVALID, INVALID, INVALID, INVALID, INVALID);
        c.same("files", x.count(12), 3);
        // Names that differ in their last byte alone are two.
        Script t = new Script().data("a: .asciz \"12345678901234a\"").data("d: .asciz \"12345678901234b\"")
                .data("e: .asciz \"12345678901234\"");
        t.kept(Script.OPEN, "a", 25);
        t.kept(Script.OPEN, "d", 25);
        t.kept(Script.OPEN, "e", 25);
        t.kept(Script.OPEN, "d", 1);
        x = run(t);
        c.answers("three files", x, 0, 0, 2, 3, 4, 5);
        c.same("files", x.count(12), 3);
    }

    private static void nameAddresses() {
        c.sentence("calls", "ADDRESS first, if a byte up to the 0, or to the sixteenth, may not be read)");
        Script s = new Script().add("li t0, 65520\nli t1, 65\n1: sb t1, 0(t0)\naddi t0, t0, 1\nli t2, 65536\n"
                + "bne t0, t2, 1b");
        s.kept(Script.OPEN, 65520, 9);
        s.kept(Script.OPEN, 65521, 9);
        s.kept(Script.OPEN, 65535, 9);
        s.kept(Script.OPEN, 65536, 9);
        s.kept(Script.OPEN, -1, 9);
        s.add("sb zero, -1(sp)");
        s.kept(Script.OPEN, 65520, 9);
        s.kept(Script.OPEN, 65535, 9);
        s.kept(Script.OPEN, 65519, 9);
        // A wrong byte does not matter where another may not be read.
        s.add("li t1, 32\nsb t1, -3(sp)\nsb t1, -1(sp)");
        s.kept(Script.OPEN, 65530, 9);
        s.add("sb zero, -1(sp)");
        s.kept(Script.OPEN, 65530, 9);
        TimeMachine x = run(s);
        c.answers("answers", x, 0, 0, INVALID, ADDRESS, ADDRESS, ADDRESS, ADDRESS, 2, INVALID, INVALID, ADDRESS,
                INVALID);
    }

    private static void twoNames() {
        c.sentence("calls", "13 RENAME the name at a (all of it first, INVALID, too) to that at b.");
        Script s = script().data("bad: .asciz \" \"");
        s.kept(Script.RENAME, "bad", 65536);
        s.kept(Script.RENAME, 65536, "bad");
        s.kept(Script.RENAME, "n", 65536);
        s.kept(Script.RENAME, "n", "bad");
        s.kept(Script.RENAME, "n", "k");
        TimeMachine x = run(s);
        c.answers("answers", x, 0, 0, INVALID, ADDRESS, ADDRESS, INVALID, MISSING);
        c.sentence("calls", "b as how (which is looked at ahead of the name)");
        Script t = script();
        t.kept(Script.OPEN, 65536, 0);
        t.kept(Script.OPEN, 65536, 1);
        x = run(t);
        c.answers("answers", x, 0, 0, INVALID, ADDRESS);
    }

    private static void told() {
        c.sentence("promise 26", "-1 for another what, for a d that is not 0 .. 15, and for 1 .. 4 of one that is"
                + " none.");
        Script s = script().call(Script.PIPE, "p").call(Script.WRITE, 3, "m", 3).call(Script.OPEN, "n", 15)
                .call(Script.WRITE, 4, "m", 7);
        s.call(Script.SEEK, 4, 2, 0).call(Script.DUP, 4, 15).call(Script.DUP, 4, 14);
        TimeMachine x = run(s);
        x.outside(1, 0x41, 1);
        int[][] due = {{4, 2, 1, 0, 3}, {4, 2, 1, 0, 3}, {1, 1, 3, 0, 1}, {2, 1, 3, 0, 2}, {3, 3, 7, 2, 7}};
        for (int what = 0; what <= 4; what++) {
            for (int d = 0; d < due.length; d++) {
                c.same("descriptor(0, " + d + ", " + what + ")", x.descriptor(0, d, what), due[d][what]);
            }
            c.same("the last descriptor, " + what, x.descriptor(0, 15, what), due[4][what]);
            c.same("none, " + what, x.descriptor(0, 5, what), what == 0 ? 0 : -1);
            for (int d : new int[] {-1, 16, Integer.MIN_VALUE, Integer.MAX_VALUE}) {
                c.same("descriptor(0, " + d + ", " + what + ")", x.descriptor(0, d, what), -1);
                c.same("of an absent one", x.descriptor(1, d, what), -1);
            }
            for (int p : new int[] {-1, 1, 15, 16}) {
                c.same("of process " + p + ", " + what, x.descriptor(p, 0, what), what == 0 ? 0 : -1);
            }
            c.same("not booted, " + what, new TimeMachine().descriptor(0, 0, what), what == 0 ? 0 : -1);
        }
        for (int what : new int[] {-1, 5, Integer.MIN_VALUE, Integer.MAX_VALUE}) {
            for (int d : new int[] {-1, 0, 4, 5, 15, 16}) {
                c.same("descriptor(0, " + d + ", " + what + ")", x.descriptor(0, d, what), -1);
            }
        }
    }

    private static void held() {
        c.sentence("promise 27", "Byte i of the file (or of what is in the pipe, from the oldest on, or was typed and"
                + " not read) to which descriptor d of process p is; -1 when there is none.");
        Script s = script().call(Script.PIPE, "p").call(Script.WRITE, 3, "m", 3).call(Script.READ, 2, "b", 1)
                .call(Script.OPEN, "n", 15);
        s.call(Script.WRITE, 4, "m", 2).call(Script.READ, 0, "b", 1);
        TimeMachine x = s.stay().booted(c);
        x.outside(1, 0x787980ffL, 4);
        x.run(1000);
        int[][] due = {{-1, 'y', 0x80, 255, -1}, {-1, 'b', 'c', -1, -1}, {-1, 'a', 'b', -1, -1}};
        int[][] at = {{0, 1}, {2, 3}, {4, 4}};
        for (int k = 0; k < at.length; k++) {
            for (int i = -1; i <= 3; i++) {
                c.same("held(0, " + at[k][0] + ", " + i + ")", x.held(0, at[k][0], i), due[k][i + 1]);
                c.same("held(0, " + at[k][1] + ", " + i + ")", x.held(0, at[k][1], i), due[k][i + 1]);
            }
            c.same("far", x.held(0, at[k][0], Integer.MAX_VALUE), -1);
            c.same("far", x.held(0, at[k][0], Integer.MIN_VALUE), -1);
        }
        for (int d : new int[] {-1, 5, 15, 16, Integer.MIN_VALUE, Integer.MAX_VALUE}) {
            c.same("held(0, " + d + ", 0)", x.held(0, d, 0), -1);
        }
        for (int p : new int[] {-1, 1, 16}) {
            c.same("held(" + p + ", 0, 0)", x.held(p, 0, 0), -1);
        }
        c.same("not booted", new TimeMachine().held(0, 0, 0), -1);
    }

    private static void shown() {
        c.sentence("promise 28", "The k-th of the bytes shown that are kept, from the oldest on; -1 for none.");
        Script s = script().add("la t0, b\nli t1, -1\nsb t1, 0(t0)").call(Script.WRITE, 1, "m", 2)
                .call(Script.WRITE, 1, "b", 2);
        TimeMachine x = run(s);
        int[] at = {-1, 0, 1, 2, 3, 4, Integer.MIN_VALUE, Integer.MAX_VALUE};
        int[] due = {-1, 'a', 'b', 255, 0, -1, -1, -1};
        for (int i = 0; i < at.length; i++) {
            c.same("shown(" + at[i] + ")", x.shown(at[i]), due[i]);
        }
        x.go(0);
        c.same("at 0", x.shown(0), -1);
        c.same("not booted", new TimeMachine().shown(0), -1);
    }
}
