/** Open things: calls 5 to 13, and promises 26 to 28, which tell of descriptors, bytes held and bytes shown. */
public final class ThingsTest {
    private static final Checks c = new Checks();
    private static final int INVALID = -22;
    private static final int ADDRESS = -14;
    private static final int BAD = -1;
    private static final int MISSING = -2;
    private static final int THERE = -3;
    private static final int FULL = -4;
    private static final int BROKEN = -5;
    private static final int ROOM = -7;

    public static void main(String[] args) {
        atFirst();
        console();
        typedEnds();
        shownBytes();
        pipes();
        pipesBetween();
        pipesFull();
        files();
        opening();
        names();
        seeking();
        appending();
        duplicates();
        limits();
        unlinked();
        renaming();
        addresses();
        c.finish();
    }

    private static void atFirst() {
        c.about("promise 26, at first");
        TimeMachine x = c.booted("nop");
        int[] due = {4, 2, 0, 0, 3, -1};
        for (int d = 0; d < 2; d++) {
            for (int what = 0; what < due.length; what++) {
                c.same("descriptor(0, " + d + ", " + what + ")", x.descriptor(0, d, what), due[what]);
            }
        }
        c.same("none", x.descriptor(0, 2, 0), 0);
        c.same("none", x.descriptor(0, 2, 1), -1);
        c.same("no such d", x.descriptor(0, 16, 0), -1);
        c.same("no such d", x.descriptor(0, -1, 0), -1);
        c.same("no such what", x.descriptor(0, 0, -1), -1);
        c.same("no such what of none", x.descriptor(0, 5, 5), -1);
        c.same("of an absent process", x.descriptor(3, 0, 0), 0);
        c.same("of an absent process", x.descriptor(3, 0, 2), -1);
        c.same("of no process", x.descriptor(16, 0, 0), 0);
        c.same("of no process", x.descriptor(-1, 0, 4), -1);
        c.same("openings", x.count(13), 1);
        c.same("held", x.held(0, 0, 0), -1);
        c.same("held, no descriptor", x.held(0, 7, 0), -1);
        c.same("held, no d", x.held(0, 99, 0), -1);
        c.same("held, no process", x.held(16, 0, 0), -1);
    }

    private static void console() {
        c.about("promises 26 to 28, the console");
        Script s = new Script().data("b: .space 16").data("m: .ascii \"hey\"");
        s.kept(Script.READ, 0, "b", 0);
        s.kept(Script.WRITE, 1, "m", 3);
        s.kept(Script.WRITE, 0, "m", 0);
        s.kept(Script.READ, 1, "b", 5);
        s.kept(Script.READ, 0, "b", 5);
        s.kept(Script.CLOSE, 0);
        s.kept(Script.READ, 0, "b", 5);
        s.kept(Script.CLOSE, 1);
        s.kept(Script.CLOSE, 1);
        s.stay();
        TimeMachine x = s.booted(c);
        x.run(1000);
        c.same("waits", x.process(0, 7), 6);
        c.same("shown", Checks.shown(x), "hey");
        c.same("bytes shown", x.count(8), 3);
        c.same("typed", x.outside(1, 0x6162636465666768L, 8), 0);
        c.same("typed bytes", x.count(9), 8);
        c.same("typed bytes", x.descriptor(0, 0, 2), 8);
        c.same("held", Checks.held(x, 0, 1), "abcdefgh");
        c.same("held behind", x.held(0, 1, 8), -1);
        c.same("held below", x.held(0, 1, -1), -1);
        c.same("ready again", x.process(0, 0), 1);
        c.same("waits no more", x.process(0, 7), -1);
        x.run(4);
        c.same("read", x.descriptor(0, 0, 2), 3);
        c.same("held", Checks.held(x, 0, 0), "fgh");
        x.run(1000);
        c.answers("answers", x, 0, 0, 0, 3, 0, 5, 3, 0, BAD, 0, BAD);
        c.same("openings", x.count(13), 0);
        c.same("closed", x.descriptor(0, 0, 0), 0);
        c.same("typed without a descriptor", x.outside(1, 'z', 1), 0);
        c.same("typed bytes", x.count(9), 1);
    }

    private static void typedEnds() {
        c.about("reading typed bytes with an end");
        Script s = new Script().data("b: .space 16");
        for (int n : new int[] {3, 0, 2, 1, 5, 9}) {
            s.kept(Script.READ, 0, "b", n);
        }
        s.stay();
        TimeMachine x = s.booted(c);
        // a b 4 | 0 bytes asked | 4 first | c, then 4 stays for the next | 4 alone | d e
        x.outside(1, 0x6162040463046465L, 8);
        x.run(1000);
        c.answers("answers", x, 0, 0, 2, 0, 0, 1, 0, 2);
        c.same("all is taken", x.count(9), 0);
        c.same("room for 512", fill(x), 0);
    }

    private static int fill(TimeMachine x) {
        for (int i = 0; i < 64; i++) {
            c.same("typed", x.outside(1, 0x3131313131313131L, 8), 0);
        }
        c.same("no room", x.outside(1, 0x31, 1), 1);
        c.same("typed bytes", x.count(9), 512);
        return 0;
    }

    private static void shownBytes() {
        c.about("promise 28");
        Script s = new Script().add("li s0, 0\n1: la t0, b\nsb s0, 0(t0)");
        s.call(Script.WRITE, 1, "b", 100).add("addi s0, s0, 1\nli t1, 30\nbne s0, t1, 1b").stay();
        s.data("b: .space 100");
        TimeMachine x = s.booted(c);
        c.same("nothing yet", x.shown(0), -1);
        x.run(2000);
        c.same("in all", x.count(8), 3000);
        c.same("the oldest that is kept", x.shown(0), 0);
        c.same("the first byte of a hundred", x.shown(48), 10);
        c.same("the next such", x.shown(148), 11);
        c.same("the last one", x.shown(1948), 29);
        c.same("the last byte", x.shown(2047), 0);
        c.same("behind", x.shown(2048), -1);
        c.same("below", x.shown(-1), -1);
    }

    private static void pipes() {
        c.about("pipes of one process");
        Script s = new Script().data("p: .word 7, 7").data("b: .space 600").data("m: .ascii \"abcdef\"");
        s.kept(Script.PIPE, "p");
        s.kept(Script.WRITE, 3, "m", 6);
        s.kept(Script.READ, 2, "b", 4);
        s.kept(Script.READ, 2, "b", 0);
        s.kept(Script.WRITE, 2, "m", 1);
        s.kept(Script.READ, 3, "b", 1);
        s.kept(Script.WRITE, 3, "m", 3);
        s.kept(Script.READ, 2, "b", 512);
        s.kept(Script.CLOSE, 3);
        s.kept(Script.READ, 2, "b", 5);
        s.kept(Script.CLOSE, 2);
        TimeMachine x = s.stay().booted(c);
        x.run(8);
        c.answers("the pipe", x, 0, 0, 0);
        c.same("kind", x.descriptor(0, 2, 0), 1);
        c.same("kind", x.descriptor(0, 3, 0), 2);
        c.same("rights", x.descriptor(0, 2, 4), 1);
        c.same("rights", x.descriptor(0, 3, 4), 2);
        c.same("users", x.descriptor(0, 2, 1), 1);
        c.same("position", x.descriptor(0, 3, 3), 0);
        c.same("openings", x.count(13), 3);
        int b = x.label(0, 2);
        c.same("descriptors", Checks.word(x, 0, x.label(0, 1)), 2);
        c.same("descriptors", Checks.word(x, 0, x.label(0, 1) + 4), 3);
        x.run(7);
        c.same("held", Checks.held(x, 0, 2), "abcdef");
        c.same("held by the other end", Checks.held(x, 0, 3), "abcdef");
        c.same("bytes", x.descriptor(0, 2, 2), 6);
        x.run(1000);
        c.answers("answers", x, 0, 0, 0, 6, 4, 0, BAD, BAD, 3, 5, 0, 0, 0);
        c.same("what was read", x.peek(0, b), 'e');
        c.same("what was read", x.peek(0, b + 4), 'c');
        c.same("openings", x.count(13), 1);
    }

    private static void pipesBetween() {
        c.about("pipes that wait, and broken ones");
        Script s = new Script().data("p: .word 0, 0").data("b: .space 512");
        s.call(Script.PIPE, "p").call(Script.FORK).add("beqz a0, 1f");
        s.kept(Script.WRITE, 3, "b", 512);
        s.kept(Script.WRITE, 3, "b", 0);
        s.kept(Script.WRITE, 3, "b", 1);
        s.call(Script.CLOSE, 2);
        s.kept(Script.WRITE, 3, "b", 1);
        s.kept(Script.WRITE, 3, "b", 0);
        s.stay();
        s.add("1:").call(Script.YIELD).call(Script.YIELD).call(Script.READ, 2, "b", 512).call(Script.SLEEP, 5);
        s.call(Script.EXIT, 0);
        TimeMachine x = s.booted(c);
        x.run(30);
        c.same("two descriptors of one opening", x.descriptor(0, 2, 1), 2);
        x.run(1000);
        c.same("the parent waits for room, or for a reader that goes", x.process(0, 7), 21);
        c.same("the child sleeps", x.process(1, 7), 19);
        c.answers("the child reads still", x, 0, 0, 512, 0, 1, 1, 0);
    }

    private static void pipesFull() {
        c.about("a pipe without room");
        Script s = new Script().data("p: .word 0, 0").data("b: .space 512");
        s.call(Script.PIPE, "p").call(Script.FORK).add("beqz a0, 1f");
        s.call(Script.CLOSE, 2);
        s.kept(Script.WRITE, 3, "b", 500);
        s.kept(Script.WRITE, 3, "b", 13);
        s.kept(Script.WRITE, 3, "b", 13);
        s.kept(Script.WRITE, 3, "b", 0);
        s.stay();
        s.add("1:").call(Script.SLEEP, 5).call(Script.READ, 2, "b", 1).call(Script.SLEEP, 5).call(Script.EXIT, 0);
        TimeMachine x = s.booted(c);
        x.run(1000);
        c.same("waits for room", x.process(0, 7), 7);
        c.same("bytes", x.descriptor(0, 3, 2), 500);
        x.outside(3, 5, 0);
        x.run(1000);
        c.same("there was room", x.process(0, 7), 7);
        c.answers("answers", x, 0, 0, 500, 13, 0, 0);
        c.same("bytes", x.descriptor(0, 3, 2), 512);
        x.outside(3, 5, 0);
        x.run(1000);
        c.answers("answers", x, 0, 0, 500, 13, BROKEN, BROKEN);
        c.same("the child has ended", x.process(1, 0), 3);
    }

    private static void files() {
        c.about("files");
        Script s = new Script().data("n: .asciz \"file\"").data("b: .space 520").data("m: .ascii \"abcdef\"");
        s.kept(Script.OPEN, "n", 1);
        s.kept(Script.OPEN, "n", 11);
        s.kept(Script.WRITE, 2, "m", 6);
        s.kept(Script.READ, 2, "b", 6);
        s.kept(Script.SEEK, 2, 1, 0);
        s.kept(Script.READ, 2, "b", 3);
        s.kept(Script.WRITE, 2, "m", 0);
        s.kept(Script.SEEK, 2, 8, 0);
        s.kept(Script.READ, 2, "b", 3);
        s.kept(Script.WRITE, 2, "m", 2);
        s.kept(Script.SEEK, 2, 510, 0);
        s.kept(Script.WRITE, 2, "m", 3);
        s.kept(Script.WRITE, 2, "m", 2);
        s.kept(Script.WRITE, 2, "m", 1);
        s.kept(Script.WRITE, 2, "m", 0);
        TimeMachine x = s.stay().booted(c);
        x.run(8);
        c.answers("missing", x, 0, 0, MISSING);
        c.same("files", x.count(12), 0);
        x.run(8);
        c.same("files", x.count(12), 1);
        c.same("kind", x.descriptor(0, 2, 0), 3);
        c.same("rights", x.descriptor(0, 2, 4), 3);
        x.run(9);
        c.same("position", x.descriptor(0, 2, 3), 6);
        c.same("bytes", x.descriptor(0, 2, 2), 6);
        c.same("held", Checks.held(x, 0, 2), "abcdef");
        x.run(1000);
        c.answers("answers", x, 0, 0, MISSING, 2, 6, 0, 1, 3, 0, 8, 0, 2, 510, ROOM, 2, ROOM, 0);
        c.same("bytes", x.descriptor(0, 2, 2), 512);
        c.same("position", x.descriptor(0, 2, 3), 512);
        c.same("0 between", x.held(0, 2, 7), 0);
        c.same("behind a gap", x.held(0, 2, 8), 'a');
        c.same("0 between", x.held(0, 2, 10), 0);
        c.same("at the end", x.held(0, 2, 511), 'b');
        c.same("behind", x.held(0, 2, 512), -1);
        c.same("read", x.peek(0, x.label(0, 2)), 'b');
    }

    private static void opening() {
        c.about("how files are opened");
        int[] wrong = {0, 64, -1, 4, 5, 8, 12, 16 + 1, 16 + 2, 32 + 1, 32 + 8, 32 + 8 + 1, 4 + 8 + 1, 1 << 30};
        Script s = new Script().data("n: .asciz \"f\"").data("k: .asciz \"k\"").data("m: .ascii \"abc\"").data("b: .space 9");
        for (int how : wrong) {
            s.kept(Script.OPEN, "n", how);
        }
        s.kept(Script.OPEN, "n", 2 + 8 + 16);
        s.kept(Script.OPEN, "n", 2 + 8 + 16);
        s.kept(Script.WRITE, 2, "m", 3);
        s.kept(Script.READ, 2, "b", 3);
        s.kept(Script.OPEN, "n", 1);
        s.kept(Script.WRITE, 3, "m", 3);
        s.kept(Script.READ, 3, "b", 9);
        s.kept(Script.OPEN, "n", 2 + 32);
        s.kept(Script.READ, 3, "b", 9);
        s.kept(Script.WRITE, 2, "m", 1);
        s.kept(Script.SEEK, 3, 0, 0);
        s.kept(Script.READ, 3, "b", 9);
        s.kept(Script.OPEN, "k", 63);
        TimeMachine x = s.stay().booted(c);
        x.run(1000);
        for (int i = 0; i < wrong.length; i++) {
            c.same("how " + wrong[i], Script.answer(x, 0, i), INVALID);
        }
        c.answers("answers", x, 0, wrong.length, 2, THERE, 3, BAD, 3, BAD, 3, 4, 0, 1, 0, 4, 5);
        c.same("rights", x.descriptor(0, 2, 4), 2);
        c.same("rights", x.descriptor(0, 3, 4), 1);
        c.same("rights", x.descriptor(0, 5, 4), 7);
        c.same("files", x.count(12), 2);
        c.same("openings", x.count(13), 5);
        c.same("0 where bytes were taken away", x.held(0, 3, 2), 0);
        c.same("what was written then", x.held(0, 3, 3), 'a');
    }

    private static void names() {
        c.about("names in memory");
        Script s = new Script();
        s.data("empty: .asciz \"\"").data("blank: .asciz \"a b\"").data("long: .asciz \"123456789012345\"");
        s.data("longer: .asciz \"1234567890123456\"").data("odd: .byte 127, 0").data("least: .byte 33, 126, 0");
        s.data("high: .byte 200, 0");
        for (String name : new String[] {"empty", "blank", "long", "longer", "odd", "least", "high"}) {
            s.kept(Script.OPEN, name, 9);
        }
        s.kept(Script.OPEN, 65536, 9);
        s.kept(Script.OPEN, 65536, 0);
        s.kept(Script.OPEN, -1, 9);
        s.add("li t0, 65521\nli t1, 0x41\n1: sb t1, 0(t0)\naddi t0, t0, 1\nli t2, 65536\nbne t0, t2, 1b");
        s.kept(Script.OPEN, 65521, 9);
        s.kept(Script.OPEN, 65520, 9);
        s.add("sb zero, -1(sp)");
        s.kept(Script.OPEN, 65521, 9);
        s.kept(Script.OPEN, 65535, 9);
        s.add("li t1, 1\nsb t1, -2(sp)\nsb t1, -1(sp)");
        s.kept(Script.OPEN, 65534, 9);
        s.kept(Script.UNLINK, "empty");
        s.kept(Script.UNLINK, 4096);
        TimeMachine x = s.stay().booted(c);
        x.run(1000);
        c.answers("answers", x, 0, 0, INVALID, INVALID, 2, INVALID, INVALID, 3, INVALID, ADDRESS, INVALID, ADDRESS, ADDRESS,
                INVALID, 4, INVALID, ADDRESS, INVALID, ADDRESS);
    }

    private static void seeking() {
        c.about("SEEK");
        Script s = new Script().data("n: .asciz \"f\"").data("m: .ascii \"abcdef\"");
        s.call(Script.OPEN, "n", 10).call(Script.WRITE, 2, "m", 6);
        s.kept(Script.SEEK, 2, 0, 1);
        s.kept(Script.SEEK, 2, -2, 1);
        s.kept(Script.SEEK, 2, -5, 1);
        s.kept(Script.SEEK, 2, 2, 2);
        s.kept(Script.SEEK, 2, -7, 2);
        s.kept(Script.SEEK, 2, 512, 0);
        s.kept(Script.SEEK, 2, 513, 0);
        s.kept(Script.SEEK, 2, -1, 0);
        s.kept(Script.SEEK, 2, 0x7fffffff, 1);
        s.kept(Script.SEEK, 2, 0, 3);
        s.kept(Script.SEEK, 9, 0, 3);
        s.kept(Script.SEEK, 9, 0, -1);
        s.kept(Script.SEEK, 9, 0, 0);
        s.kept(Script.SEEK, 1, 0, 0);
        s.kept(Script.SEEK, 16, 0, 0);
        s.kept(Script.SEEK, -1, 0, 0);
        TimeMachine x = s.stay().booted(c);
        x.run(1000);
        c.answers("answers", x, 0, 0, 6, 4, BAD, 8, BAD, 512, BAD, BAD, BAD, INVALID, INVALID, INVALID, BAD, BAD, BAD, BAD);
        c.same("position", x.descriptor(0, 2, 3), 512);
    }

    private static void appending() {
        c.about("appending");
        Script s = new Script().data("n: .asciz \"f\"").data("m: .ascii \"abcdef\"").data("b: .space 512");
        s.kept(Script.OPEN, "n", 15);
        s.kept(Script.OPEN, "n", 3);
        s.kept(Script.WRITE, 3, "m", 2);
        s.kept(Script.WRITE, 2, "m", 3);
        s.kept(Script.READ, 2, "b", 3);
        s.kept(Script.SEEK, 2, 1, 0);
        s.kept(Script.WRITE, 2, "b", 508);
        s.kept(Script.WRITE, 2, "m", 0);
        s.kept(Script.SEEK, 2, 0, 1);
        s.kept(Script.WRITE, 2, "b", 507);
        s.kept(Script.SEEK, 2, 0, 1);
        TimeMachine x = s.stay().booted(c);
        x.run(1000);
        c.answers("answers", x, 0, 0, 2, 3, 2, 3, 0, 1, ROOM, 0, 1, 507, 512);
        c.same("bytes", Checks.held(x, 0, 3).substring(0, 5), "ababc");
    }

    private static void duplicates() {
        c.about("DUP");
        Script s = new Script().data("n: .asciz \"f\"").data("m: .ascii \"abcdef\"");
        s.kept(Script.DUP, 5, -1);
        s.kept(Script.DUP, 5, -2);
        s.kept(Script.DUP, 0, 16);
        s.kept(Script.DUP, 0, -1);
        s.kept(Script.DUP, 0, 15);
        s.kept(Script.OPEN, "n", 10);
        s.kept(Script.DUP, 3, 0);
        s.kept(Script.DUP, 3, 3);
        s.kept(Script.WRITE, 0, "m", 2);
        s.kept(Script.SEEK, 3, 0, 1);
        s.kept(Script.DUP, 15, 3);
        s.kept(Script.CLOSE, 0);
        s.kept(Script.DUP, 16, 1);
        TimeMachine x = s.stay().booted(c);
        x.run(1000);
        c.answers("answers", x, 0, 0, BAD, INVALID, INVALID, 2, 15, 3, 0, 3, 2, 2, 3, 0, BAD);
        c.same("console's users", x.descriptor(0, 1, 1), 4);
        c.same("files", x.count(12), 1);
        c.same("openings", x.count(13), 1);
    }

    private static void limits() {
        c.about("limits of open things");
        Script s = new Script().data("p: .word 0, 0").data("n: .asciz \"f0\"");
        for (int i = 0; i < 7; i++) {
            s.kept(Script.PIPE, "p");
        }
        s.kept(Script.PIPE, "p");
        s.kept(Script.DUP, 0, -1);
        s.kept(Script.OPEN, "n", 9);
        s.kept(Script.CLOSE, 15);
        s.kept(Script.PIPE, "p");
        s.kept(Script.OPEN, "n", 9);
        s.kept(Script.UNLINK, "n");
        TimeMachine x = s.stay().booted(c);
        x.run(1000);
        c.answers("descriptors", x, 0, 0, 0, 0, 0, 0, 0, 0, 0, FULL, FULL, FULL, 0, FULL, 15, 0);
        c.same("openings", x.count(13), 15);
        filesFull();
        openingsFull();
    }

    private static void filesFull() {
        Script s = new Script().data("n: .asciz \"f0\"");
        s.add("li s1, 17\n1: ").call(Script.OPEN, "n", 9).add("mv s2, a0").call(Script.CLOSE, "s2");
        s.add("la t0, n\nlbu t1, 1(t0)\naddi t1, t1, 1\nsb t1, 1(t0)\naddi s1, s1, -1\nbnez s1, 1b").stay();
        TimeMachine x = s.booted(c);
        x.run(1000);
        c.same("files", x.count(12), 16);
        c.same("the last one", x.register(0, 18), FULL);
        c.same("openings", x.count(13), 1);
    }

    private static void openingsFull() {
        // Each process opens 13 files at most; a child has those of its parent closed.
        Script s = new Script().data("n: .asciz \"f\"");
        s.add("li s1, 4\n2: li s0, 12\n1: ").call(Script.OPEN, "n", 9).add("mv s2, a0\naddi s0, s0, -1\nbnez s0, 1b");
        s.call(Script.FORK).add("bnez a0, 4f\nli s3, 2\n3: ").call(Script.CLOSE, "s3");
        s.add("addi s3, s3, 1\nli t0, 14\nbne s3, t0, 3b\naddi s1, s1, -1\nbnez s1, 2b\n4: ").stay();
        TimeMachine x = s.booted(c);
        x.run(5000);
        c.same("openings", x.count(13), 48);
        c.same("the last process's last opening", x.register(3, 18), FULL);
        c.same("all wait", x.reason(), 1);
        c.same("the console's users", x.descriptor(0, 0, 1), 10);
    }

    private static void unlinked() {
        c.about("UNLINK");
        Script s = new Script().data("n: .asciz \"f\"").data("m: .ascii \"abcdef\"").data("b: .space 8");
        s.kept(Script.UNLINK, "n");
        s.kept(Script.OPEN, "n", 11);
        s.kept(Script.WRITE, 2, "m", 6);
        s.kept(Script.UNLINK, "n");
        s.kept(Script.OPEN, "n", 1);
        s.kept(Script.SEEK, 2, 0, 0);
        s.kept(Script.READ, 2, "b", 8);
        s.kept(Script.OPEN, "n", 9);
        s.kept(Script.READ, 3, "b", 8);
        TimeMachine x = s.stay().booted(c);
        x.run(1000);
        c.answers("answers", x, 0, 0, MISSING, 2, 6, 0, MISSING, 0, 6, 3, 0);
        c.same("files with names", x.count(12), 1);
        c.same("the one without a name", Checks.held(x, 0, 2), "abcdef");
    }

    private static void renaming() {
        c.about("RENAME");
        Script s = new Script().data("n: .asciz \"f\"").data("k: .asciz \"g\"").data("m: .ascii \"abcdef\"");
        s.data("bad: .asciz \" \"").data("b: .space 8");
        s.kept(Script.RENAME, "n", "k");
        s.kept(Script.RENAME, "bad", 65536);
        s.kept(Script.RENAME, 65536, "bad");
        s.kept(Script.RENAME, "n", "bad");
        s.kept(Script.RENAME, "n", 65536);
        s.kept(Script.OPEN, "n", 10);
        s.kept(Script.WRITE, 2, "m", 3);
        s.kept(Script.OPEN, "k", 10);
        s.kept(Script.WRITE, 3, "m", 5);
        s.kept(Script.RENAME, "n", "n");
        s.kept(Script.RENAME, "n", "k");
        s.kept(Script.OPEN, "n", 1);
        s.kept(Script.OPEN, "k", 1);
        TimeMachine x = s.stay().booted(c);
        x.run(1000);
        c.answers("answers", x, 0, 0, MISSING, INVALID, ADDRESS, INVALID, ADDRESS, 2, 3, 3, 5, 0, 0, MISSING, 4);
        c.same("the renamed one", Checks.held(x, 0, 4), "abc");
        c.same("the one that lost its name", Checks.held(x, 0, 3), "abcde");
        c.same("files with names", x.count(12), 1);
    }

    private static void addresses() {
        c.about("numbers and addresses of READ and WRITE");
        Script s = new Script().data("b: .space 8");
        s.kept(Script.READ, 9, 65536, -1);
        s.kept(Script.READ, 9, 65536, 513);
        s.kept(Script.READ, 9, 65536, 1);
        s.kept(Script.READ, 9, 65536, 0);
        s.kept(Script.READ, 0, 0, 1);
        s.kept(Script.WRITE, 1, 0, 512);
        s.kept(Script.WRITE, 1, 0, 513);
        s.kept(Script.WRITE, 1, 65535, 1);
        s.kept(Script.WRITE, 1, 65535, 2);
        s.kept(Script.WRITE, 1, -1, 2);
        s.kept(Script.WRITE, 16, "b", 2);
        s.kept(Script.PIPE, 65530);
        s.kept(Script.PIPE, 65532);
        s.kept(Script.PIPE, 0);
        s.kept(Script.PIPE, 65528);
        TimeMachine x = s.stay().booted(c);
        x.run(1000);
        c.answers("answers", x, 0, 0, INVALID, INVALID, ADDRESS, BAD, ADDRESS, 512, INVALID, 1, ADDRESS, ADDRESS, BAD, INVALID,
                ADDRESS, ADDRESS, 0);
        c.same("shown", x.count(8), 513);
        c.same("the pipe's words", Checks.word(x, 0, 65528), 2);
        c.same("the pipe's words", Checks.word(x, 0, 65532), 3);
    }
}
