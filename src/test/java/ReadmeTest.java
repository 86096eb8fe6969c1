/** What README.md says of how the class is used. */
public final class ReadmeTest {
    private static final Checks c = new Checks();

    public static void main(String[] args) {
        c.about("README.md");
        TimeMachine x = new TimeMachine();
        firstRun(x);
        back(x);
        again(x);
        c.finish();
    }

    private static void feed(TimeMachine x, String text) {
        for (int i = 0; i < text.length(); i += 20) {
            int[] five = new int[5];
            for (int k = 0; k < 20; k++) {
                five[k / 4] = five[k / 4] << 8 | (i + k < text.length() ? text.charAt(i + k) : 0);
            }
            x.feed(five[0], five[1], five[2], five[3], five[4]);
        }
        if (text.length() % 20 != 0) {
            x.end(text.length() % 20);
        }
    }

    private static void firstRun(TimeMachine x) {
        feed(x, "e: li a0, 0\n la a1, b\n li a2, 8\n li a7, 6 # READ\n ecall\n beqz a0, q\n mv a2, a0\n li a0, 1\n"
                + " la a1, b\n li a7, 7 # WRITE\n ecall\n j e\nq: li a7, 0 # EXIT\n ecall\n .data\nb: .space 8\n");
        c.same("assemble", x.assemble(0), 0);
        x.boot(0);
        c.same("run", x.run(100), 6);
        c.same("reason", x.reason(), 1);
        c.same("outside", x.outside(1, 0x6869, 2), 0);
        c.same("run", x.run(100), 15);
        c.same("shown", x.shown(0), 104);
        c.same("outside", x.outside(1, 4, 1), 0);
        c.same("run", x.run(100), 4);
        c.same("reason", x.reason(), 2);
        c.same("count", x.count(0), 25);
    }

    private static void back(TimeMachine x) {
        feed(x, "x17 == 7 && pid == 0");
        c.same("watch", x.watch(0), 0);
        c.same("backTo", x.backTo(0), 19);
        c.same("register", x.register(0, 32), 12);
        c.same("text", Checks.text(x, 0, 12), "c.li a7, 6");
        c.same("line", x.line(0, 12), 4);
        c.same("wrote", x.wrote(0, 1024), 6);
        x.go(8);
        c.same("peek", x.peek(0, 1024), 104);
        c.same("count", x.count(8), 0);
        c.same("drop", x.drop(0) ? 1 : 0, 1);
    }

    private static void again(TimeMachine x) {
        StringBuilder log = new StringBuilder();
        for (int k = x.pack(); k > 0; k--) {
            log.append((char) x.logByte(log.length()));
        }
        feed(x, log.toString());
        c.same("replay", x.replay(0), 2);
        c.same("run", x.run(100), 25);
        c.same("event", x.event(0, 1), 6);
        x.go(8);
        c.same("cut", x.cut(), 17);
    }
}
