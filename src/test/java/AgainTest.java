import java.nio.charset.StandardCharsets;
import java.util.Arrays;
import java.util.Random;

/** What an object was used for before makes no difference to programs, breaks and machines that come then. */
public final class AgainTest {
    private static final Checks c = new Checks();
    private static final String[] TEXTS = {"a: .equ k, 1\n.equ l, 2\n1: addi a0, a0, k\nj 1b\n.data\n"
        + "b: .byte l, 1f - 1b\n1:", "jalr a1\nnop\nret",
        "foo", ".byte 1f\n1: .byte 1b, 1f\n.asciz \"abc\"\n1:", "1: j 1f\n.space 3000\n1: beqz a0, 1b\n.equ k, 7", "",
        ".data\nd: .word d, e\n.text\ne: la a0, d",
        "addi a0, a0, k", ".space 32768\nnop", "j a\n.align 4\na: lw a0, a(a1)\n.ascii \"x\", \"y\"",
        "li a0, 5\nc.nop\nl: k: j l", "1:1:1: .half 1b\n.word 1 / 0",
        ".byte k\n.equ k, 3\nb: a:", "x0:", "1: nop\n.byte 1f", "jalr a1\n.byte 5",
        "bnez s0, . + 2000\nbeq a0, a1, . + 5000\ncall . - 8\n0:"};
    /** Four processes that reserve words, sleep, yield and wait, with a handler that sleeps, too. */
    private static final String BUSY = "li a7, 17\nli a0, 3\nla a1, h\necall\nli a7, 1\necall\necall\n1: la s0, w\n"
            + "lr.w t0, (s0)\naddi t0, t0, 1\n"
            + "sc.w t1, t0, (s0)\nsw t1, 4(s0)\nli a7, 19\nli a0, 2\necall\nlr.w t0, (s0)\nli a7, 15\necall\n"
            + "sc.w t1, t0, (s0)\nadd s2, s2, t1\nlr.w t0, (s0)\n"
            + "addi s1, s1, 1\nsc.w t1, t0, (s0)\nadd s2, s2, t1\nli a7, 21\necall\nsw a0, 12(s0)\nj 1b\n"
            + "h: la t0, w\nlw t1, 16(t0)\naddi t1, t1, 1\nsw t1, 16(t0)\nli a7, 19\nli a0, 1\necall\nli a7, 18\n"
            + "ecall\n.data\nw: .word 0, 0, 0, 0, 0";

    public static void main(String[] args) {
        programs();
        shorterTexts();
        breaks();
        allBreaks();
        allPrograms();
        boots();
        bootsBehindLongRuns();
        branches();
        c.finish();
    }

    private static String told(TimeMachine x, int p) {
        StringBuilder out = new StringBuilder(Checks.image(x, p));
        for (int what = 0; what <= 4; what++) {
            out.append(' ').append(x.program(p, what));
        }
        for (int k = 0; x.label(p, k) >= 0; k++) {
            out.append(" l").append(x.label(p, k));
        }
        for (int k = 0; k < Math.min(40, x.program(p, 2)); k++) {
            out.append(" n").append(x.line(p, k));
        }
        return out.toString();
    }

    private static void programs() {
        c.about("a text behind others");
        for (int seed = 0; seed < 30; seed++) {
            Random random = new Random(seed);
            TimeMachine x = new TimeMachine();
            for (int i = 0; i < 12; i++) {
                String text = TEXTS[random.nextInt(TEXTS.length)];
                int p = random.nextInt(4);
                String was = told(x, p);
                TimeMachine fresh = new TimeMachine();
                int fault = Checks.assemble(fresh, p, text);
                c.same("fault of <" + text + ">", Checks.assemble(x, p, text), fault);
                c.same("what is told of <" + text + ">", told(x, p), fault == 0 ? told(fresh, p) : was);
                if (random.nextInt(4) == 0 && x.program(p, 0) >= 0) {
                    x.boot(p);
                }
            }
        }
    }

    private static byte[] twenty(String text) {
        return (text + " ".repeat(20)).substring(0, 20).getBytes(StandardCharsets.ISO_8859_1);
    }

    /** Feeds twenty bytes, of which the first n count. */
    private static void feedPart(TimeMachine x, byte[] twenty, int n) {
        Checks.feed(x, twenty);
        c.same("end", x.end(n), n);
    }

    /** What was fed behind the bytes that count is not there. */
    private static void shorterTexts() {
        c.about("a part of what was fed");
        String[] texts = {".byte 'a'x          ", ".byte '\\n', 1<<2, 'z", ".byte 8>>1, 0x1fb, 0",
            ".ascii \"ab\\\"c\", \"d",
            "1: j 1b; .half 0b11x", "lr.w.aqrl a0, (a1)xx", "a: .equ ab, %hi(70)0", "sc.w.rl a0,a1, (a2)1",
            "li a0,'\\\\'  ,1   "};
        for (String text : texts) {
            byte[] twenty = twenty(text.replace(';', '\n'));
            for (int n = 0; n <= 20; n++) {
                TimeMachine x = new TimeMachine();
                feedPart(x, twenty, n);
                TimeMachine fresh = new TimeMachine();
                Checks.feed(fresh, Arrays.copyOf(twenty, n));
                c.same("fault of " + n + " of <" + text + ">", x.assemble(0), fresh.assemble(0));
                c.same("image of " + n + " of <" + text + ">", Checks.image(x, 0), Checks.image(fresh, 0));
            }
        }
        String[] conditions = {"x12<=0xab12&&old(x1)", "3>>1!=count||~5==-1>", "12<<byte[5]|half[4]^",
            "!x1>=0x12f&changed(1"};
        for (String text : conditions) {
            byte[] twenty = twenty(text);
            for (int n = 0; n <= 20; n++) {
                TimeMachine x = c.booted("nop");
                feedPart(x, twenty, n);
                TimeMachine fresh = c.booted("nop");
                Checks.feed(fresh, Arrays.copyOf(twenty, n));
                int fault = fresh.watch(0);
                c.same("fault of " + n + " of <" + text + ">", x.watch(0), fault);
                c.same("value of " + n + " of <" + text + ">", fault == 0 ? x.value(0) : 0,
                        fault == 0 ? fresh.value(0) : 0);
            }
        }
        byte[] log = Checks.bytes(4, 0x03, 0x81, 0x01, 7, 0x05, 1, 0x31, 2, 65, 66, 67, 0x0c, 1, 2, 3, 4, 0x13, 1, 0);
        for (int n = 0; n <= 20; n++) {
            TimeMachine x = c.booted("nop");
            feedPart(x, log, n);
            TimeMachine fresh = c.booted("nop");
            Checks.feed(fresh, Arrays.copyOf(log, n));
            c.same("a log of " + n, x.replay(0), fresh.replay(0));
        }
    }

    private static void breaks() {
        c.about("a condition behind others");
        TimeMachine x = c.booted("1: addi s0, s0, 3\nj 1b");
        x.run(7);
        for (int i = 0; i < 60; i++) {
            Checks.watch(x, i % 3, "old(count) * " + i + " + changed(x8) + old(x8)");
            c.same("value", x.value(i % 3), 6L * i + 1 + 9);
            Checks.watch(x, i % 3, "old(1 + (2 || changed(x1");
            c.same("value", x.value(i % 3), 6L * i + 1 + 9);
        }
    }

    /** All eight are there; then faults, and others in their places, from each one on. */
    private static void allBreaks() {
        c.about("eight conditions");
        TimeMachine x = c.booted("1: addi s0, s0, 3\nj 1b");
        x.run(7);
        long[] due = new long[8];
        for (int i = 0; i < 40; i++) {
            int k = (5 * i + i / 8) % 8;
            due[k] = 100L * i + 6;
            c.same("watch", Checks.watch(x, k, "old(count) + 100 * " + i), 0);
            for (int j = 0; j < 8; j++) {
                c.same("watch with a fault", Checks.watch(x, j, "1 + old(x1 + 2) + ]"), 1 + 8 * 18);
            }
            for (int j = 0; j < 8 && i >= 8; j++) {
                c.same("value of break " + j, x.value(j), due[j]);
            }
        }
        c.same("breaks", x.count(16), 8);
    }

    /** The machine has four programs, and there are four others: faults and still others change none of these. */
    private static void allPrograms() {
        c.about("eight programs");
        for (int first = 0; first < 4; first++) {
            TimeMachine x = new TimeMachine();
            for (int p = 0; p < 4; p++) {
                c.same("assemble", Checks.assemble(x, p, "li s0, " + (64 + p) + "\nli a0, " + (p + 1) + "\nli a7, 2\necall"), 0);
            }
            x.boot(0);
            for (int i = 0; i < 12; i++) {
                int p = (first + i) % 4;
                c.same("assemble", Checks.assemble(x, p, ".word " + (1000 * i + p)), 0);
                c.same("assemble with a fault", Checks.assemble(x, (p + 1) % 4, ".word 7, 7\nj foo"), 8 + 16 * 2);
                for (int q = 0; q < 4 && i >= 4; q++) {
                    int latest = i - Math.floorMod(i - q + first, 4);
                    c.same("image of program " + q, Checks.image(x, q), Checks.image(with(1000 * latest + q), 0));
                }
            }
            for (int p = 0; p < 4; p++) {
                x.run(1);
                c.same("the booted program " + p, x.register(0, 8), 64 + p);
                x.run(3);
            }
            c.same("no program 4", x.register(0, 10), -2);
        }
    }

    private static TimeMachine with(int word) {
        TimeMachine x = new TimeMachine();
        Checks.assemble(x, 0, ".word " + word);
        return x;
    }

    /** Something comes from outside, or some ticks are made. */
    private static void act(TimeMachine x, Random random) {
        int it = random.nextInt(16);
        if (it < 8) {
            x.run(random.nextInt(12));
        } else if (it < 10) {
            x.outside(0, random.nextInt(4), 0);
        } else if (it < 12) {
            x.outside(3, random.nextInt(4), 0);
        } else if (it < 14) {
            x.outside(4, random.nextInt(100), 0);
        } else if (it == 14) {
            x.outside(2, random.nextInt(4), 3);
        } else {
            x.outside(1, random.nextInt(1000), 2);
        }
    }

    private static void bothAct(TimeMachine x, TimeMachine y, int seed, int times) {
        Random one = new Random(5000 + seed);
        Random other = new Random(5000 + seed);
        for (int i = 0; i < times; i++) {
            act(x, one);
            act(y, other);
        }
    }

    private static void boots() {
        c.about("a machine behind others");
        for (int seed = 0; seed < 20; seed++) {
            TimeMachine x = c.booted(BUSY);
            Random before = new Random(1000 + seed);
            for (int i = 0; i < 30 * seed; i++) {
                act(x, before);
            }
            x.go((int) x.count(1) / 2);
            x.boot(0);
            TimeMachine fresh = c.booted(BUSY);
            bothAct(x, fresh, seed, 200);
            same("at last", x, fresh);
            x.go((int) x.count(1) / 3);
            fresh.go((int) fresh.count(1) / 3);
            same("before", x, fresh);
        }
    }

    /** Copies of a machine before, however many there were, are not gone back to. */
    private static void bootsBehindLongRuns() {
        c.about("a machine behind a long one");
        String other = "li s0, 9\n1: addi s0, s0, 2\nj 1b";
        for (int ticks : new int[] {1, 255, 256, 1000, 1791, 1792, 1800, 2047, 2048, 3500, 4096, 16000, 60000}) {
            TimeMachine x = c.booted("1: addi s0, s0, 1\nj 1b");
            Checks.assemble(x, 1, other);
            x.run(ticks);
            x.boot(1);
            x.run(3000);
            for (int at : new int[] {2999, 0, 100, 255, 256, 257, 1500, 1792, 2048, 3000}) {
                x.go(at);
                c.same("s0 at " + at + " behind " + ticks, x.register(0, 8), at == 0 ? 0 : 9 + at / 2 * 2);
            }
        }
    }

    private static void same(String what, TimeMachine x, TimeMachine y) {
        c.same(what + ": END", x.count(1), y.count(1));
        c.same(what + ": what is seen", TimeSeen.of(x).equals(TimeSeen.of(y)) ? 1 : 0, 1);
        x.pack();
        y.pack();
        c.same(what + ": the recording", Checks.log(x), Checks.log(y));
        c.same(what + ": why the latest run stopped", x.reason(), y.reason());
    }

    /** What comes behind a cut is the same as in a machine that was never beyond it. */
    private static void branches() {
        c.about("behind a cut");
        for (int seed = 0; seed < 150; seed++) {
            Random random = new Random(seed);
            TimeMachine x = c.booted(BUSY);
            for (int i = 0; i < 300 + seed; i++) {
                act(x, random);
            }
            int end = (int) x.count(1);
            int near = 256 * (1 + random.nextInt(3)) + random.nextInt(3) - 1;
            int at = seed % 2 == 0 && near <= end ? near : random.nextInt(end + 1);
            x.go(at);
            c.same("cut", x.cut(), end - at);
            TimeMachine y = c.booted(BUSY);
            Checks.feed(y, Checks.logOf(x));
            c.same("replay", y.replay(0), x.count(3));
            c.same("run", y.run(at), at);
            x.run(0);
            y.run(0);
            same("where it was cut", x, y);
            bothAct(x, y, seed, 80);
            same("behind", x, y);
            x.go(at / 2);
            y.go(at / 2);
            same("before", x, y);
        }
    }
}
