import java.util.Random;

/** Any calls in any order, with any arguments: none throws but what it may, and what is told stays within its bounds. */
public final class AnyCallTest {
    private static final Checks c = new Checks();
    private static final String[] TOKENS = {"add", "addi", "lw", "sw", "li", "la", "j", "beqz", "bnez", "call", "jal", "jalr",
        "lr.w", "sc.w.aq", "ecall", "nop", "ret", "c.lw", "c.addi", "c.mv", ".word", ".byte", ".half", ".space", ".align",
        ".equ", ".ascii", ".asciz", ".text", ".data", "a0", "a1", "s0", "sp", "zero", "x31", "x32", "foo", "bar", ".", "1f",
        "1b", "1:", "2:", "foo:", "bar:", "1", "5", "0x10", "0b11", "4096", "-1", "99999999999", "'a'", "\"text\\n\"", "\"", "'",
        "(", ")", "(", ")", ",", ",", ",", "+", "-", "*", "/", "%", "%hi(", "%lo(", "<<", ">>", "<", "&", "|", "^", "~", "\n",
        "\n", "\n", "\n", "#", "\t", "@", "7", "0"};
    private static final String[] PARTS = {"x1", "x8", "x31", "x32", "pc", "pid", "count", "byte", "half", "old", "changed", "[",
        "]", "(", ")", "(", ")", "||", "&&", "==", "!=", "<", "<=", ">", ">=", "|", "^", "&", "<<", ">>", "+", "-", "*", "/", "%",
        "!", "~", "1", "0", "1024", "0x40", "foo", "=", " ", "65532"};

    public static void main(String[] args) {
        c.about("any calls");
        for (int seed = 1; seed <= 300; seed++) {
            run(new Random(seed));
        }
        c.finish();
    }

    private static void run(Random random) {
        TimeMachine x = new TimeMachine();
        for (int i = 0; i < 512; i++) {
            try {
                call(x, random);
            } catch (IllegalArgumentException | IllegalStateException e) {
                c.same("thrown by the class itself", e.getStackTrace()[0].getClassName().equals("TimeMachine") ? 1 : 0, 1);
            } catch (RuntimeException e) {
                e.printStackTrace(System.out);
                c.same("a call threw", 1, 0);
            }
            check(x);
        }
    }

    private static void check(TimeMachine x) {
        c.same("NOW is not above END", x.count(0) <= x.count(1) && x.count(1) <= 60000 ? 1 : 0, 1);
        c.same("came of recorded", x.count(4) <= x.count(3) && x.count(3) + x.count(5) <= 2048 ? 1 : 0, 1);
        c.same("bounds", x.count(10) <= 256 && x.count(11) <= 16 && x.count(13) <= 48 && x.count(7) <= 16 ? 1 : 0, 1);
    }

    private static int some(Random random) {
        switch (random.nextInt(5)) {
            case 0:
                return random.nextInt();
            case 1:
                return random.nextInt(70000) - 10;
            default:
                return random.nextInt(22) - 2;
        }
    }

    private static void call(TimeMachine x, Random random) {
        switch (random.nextInt(34)) {
            case 0:
                x.feed(random.nextInt(), random.nextInt(), random.nextInt(), random.nextInt(), random.nextInt());
                break;
            case 1:
                x.end(random.nextInt(23) - 1);
                break;
            case 2:
                Checks.feed(x, soup(random, TOKENS, 60));
                x.assemble(random.nextInt(5));
                break;
            case 3:
            case 4:
                Checks.feed(x, program(random));
                x.assemble(random.nextInt(4));
                break;
            case 5:
                x.boot(random.nextInt(5));
                break;
            case 6:
                Checks.feed(x, log(random));
                x.replay(random.nextInt(5));
                break;
            case 7:
            case 8:
            case 9:
                x.outside(random.nextInt(6), random.nextInt(3) == 0 ? random.nextLong() : random.nextInt(20), some(random));
                break;
            case 10:
            case 11:
            case 12:
            case 13:
                x.run(random.nextInt(8) == 0 ? random.nextInt(3000) : random.nextInt(60));
                break;
            case 14:
                x.go(random.nextInt((int) x.count(1) + 2));
                break;
            case 15:
                x.cut();
                break;
            case 16:
            case 17:
                Checks.feed(x, soup(random, PARTS, 14));
                x.watch(random.nextInt(9));
                break;
            case 18:
                Checks.feed(x, "old(x" + random.nextInt(32) + ") != [4 * x" + random.nextInt(32) + "] && count % 7 == 0");
                x.watch(random.nextInt(8));
                break;
            case 19:
                x.drop(random.nextInt(9));
                break;
            default:
                look(x, random);
                break;
        }
    }

    private static void look(TimeMachine x, Random random) {
        switch (random.nextInt(20)) {
            case 0:
                x.program(some(random), some(random));
                break;
            case 1:
                x.image(some(random), some(random));
                break;
            case 2:
                x.label(some(random), some(random));
                break;
            case 3:
                x.before(some(random), some(random));
                break;
            case 4:
                x.line(some(random), some(random));
                break;
            case 5:
                x.value(random.nextInt(9));
                break;
            case 6:
                x.backTo(random.nextInt(9));
                break;
            case 7:
                x.wrote(some(random), some(random));
                break;
            case 8:
                x.register(some(random), some(random));
                break;
            case 9:
                x.process(some(random), some(random));
                break;
            case 10:
                x.peek(some(random), some(random));
                break;
            case 11:
                x.text(random.nextInt(3), random.nextInt(2000), some(random));
                break;
            case 12:
                x.descriptor(some(random), some(random), some(random));
                break;
            case 13:
                x.held(some(random), some(random), some(random));
                break;
            case 14:
                x.shown(some(random));
                break;
            case 15:
                x.count(some(random));
                break;
            case 16:
                x.pack();
                break;
            case 17:
                x.logByte(some(random));
                break;
            case 18:
                x.event(some(random), some(random));
                break;
            default:
                x.reason();
                break;
        }
    }

    private static String soup(Random random, String[] of, int most) {
        StringBuilder out = new StringBuilder();
        for (int n = random.nextInt(most); n > 0; n--) {
            out.append(of[random.nextInt(of.length)]).append(random.nextInt(3) == 0 ? "" : " ");
        }
        return out.toString();
    }

    /** A program of calls with any arguments, and some instructions. */
    private static String program(Random random) {
        StringBuilder out = new StringBuilder("la s0, w\n");
        for (int n = random.nextInt(25); n > 0; n--) {
            if (random.nextInt(4) != 0) {
                for (int r = 0; r < 3; r++) {
                    int a = random.nextInt(3) == 0 ? 1024 + random.nextInt(64) : random.nextInt(18) - 1;
                    out.append("li a").append(r).append(", ").append(a).append('\n');
                }
                out.append("li a7, ").append(random.nextInt(5) == 0 ? 1 : random.nextInt(23)).append("\necall\n");
            } else if (random.nextInt(3) == 0) {
                out.append(".word ").append(random.nextInt()).append('\n');
            } else {
                out.append("lr.w t0, (s0)\naddi t0, t0, 1\nsc.w t1, t0, (s0)\nsb t0, ").append(random.nextInt(40)).append("(s0)\n");
            }
        }
        return out.append("j 0\n.data\nw: .asciz \"name\"\n.space 60\n").toString();
    }

    private static byte[] log(Random random) {
        byte[] out = new byte[1 + random.nextInt(12)];
        random.nextBytes(out);
        out[0] = (byte) random.nextInt(6);
        for (int i = 1; i < out.length; i++) {
            if (random.nextInt(3) != 0) {
                out[i] = (byte) (out[i] & 0x1f);
            }
        }
        return out;
    }
}
