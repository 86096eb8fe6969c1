import java.nio.charset.StandardCharsets;

/** What the tests share: checks that count what is wrong, and ways to bring bytes and texts to a machine. */
final class Checks {
    private int wrong;
    private int asked;
    private String part = "";

    /** What the checks that follow are about. */
    void about(String what) {
        part = what;
    }

    /** The sentence of the document that the checks that follow hold to, and where it stands. */
    void sentence(String where, String words) {
        about(where + ", \"" + words + "\"");
    }

    void same(String what, long got, long due) {
        asked++;
        if (got != due) {
            wrong++;
            System.out.println(part + ": " + brief(what) + " answered " + got + ", due is " + due);
        }
    }

    void same(String what, String got, String due) {
        asked++;
        if (!got.equals(due)) {
            wrong++;
            System.out.println(part + ": " + what + " answered <" + got + ">, due is <" + due + ">");
        }
    }

    private static String brief(String what) {
        return what.length() <= 100 ? what : what.substring(0, 100) + "..";
    }

    void refused(String what, Runnable call, Class<? extends RuntimeException> due) {
        asked++;
        try {
            call.run();
        } catch (RuntimeException e) {
            if (e.getClass() == due) {
                return;
            }
            wrong++;
            System.out.println(part + ": " + what + " threw " + e + ", due is " + due.getSimpleName());
            return;
        }
        wrong++;
        System.out.println(part + ": " + what + " threw nothing, due is " + due.getSimpleName());
    }

    void argument(String what, Runnable call) {
        refused(what, call, IllegalArgumentException.class);
    }

    void state(String what, Runnable call) {
        refused(what, call, IllegalStateException.class);
    }

    /** The answers that a script of a process has kept, from one on. */
    void answers(String what, TimeMachine x, int p, int first, int... due) {
        for (int i = 0; i < due.length; i++) {
            same(what + ", answer " + (first + i), Script.answer(x, p, first + i), due[i]);
        }
    }

    /** Ends the test: exit code 1 if something was wrong. */
    void finish() {
        System.out.println(asked + " checks, " + wrong + " wrong");
        if (wrong != 0) {
            System.exit(1);
        }
    }

    /** The part that is less than twenty bytes comes first, so that a whole tape can be fed. */
    static void feed(TimeMachine x, byte[] bytes) {
        int first = bytes.length % 20;
        if (first != 0) {
            feedTwenty(x, bytes, 0);
            x.end(first);
        }
        for (int i = first; i < bytes.length; i += 20) {
            feedTwenty(x, bytes, i);
        }
    }

    private static void feedTwenty(TimeMachine x, byte[] bytes, int i) {
        x.feed(four(bytes, i), four(bytes, i + 4), four(bytes, i + 8), four(bytes, i + 12), four(bytes, i + 16));
    }

    private static int four(byte[] bytes, int from) {
        int v = 0;
        for (int i = from; i < from + 4; i++) {
            v = v << 8 | (i < bytes.length ? bytes[i] & 255 : 0);
        }
        return v;
    }

    static void feed(TimeMachine x, String text) {
        feed(x, text.getBytes(StandardCharsets.ISO_8859_1));
    }

    static int assemble(TimeMachine x, int p, String text) {
        feed(x, text);
        return x.assemble(p);
    }

    static int watch(TimeMachine x, int k, String text) {
        feed(x, text);
        return x.watch(k);
    }

    /** The recording, packed. */
    static byte[] logOf(TimeMachine x) {
        byte[] row = new byte[x.pack()];
        for (int k = 0; k < row.length; k++) {
            row[k] = (byte) x.logByte(k);
        }
        return row;
    }

    /** Runs till the current process is at a place. */
    void runTo(TimeMachine x, int place) {
        watch(x, 7, "pc == " + place + " && pid >= 0");
        x.run(60000);
        same("it comes to its place", x.reason(), 3 + 8 * 7);
        x.drop(7);
    }

    static byte[] bytes(int... values) {
        byte[] row = new byte[values.length];
        for (int i = 0; i < row.length; i++) {
            row[i] = (byte) values[i];
        }
        return row;
    }

    static int replay(TimeMachine x, int p, int... log) {
        feed(x, bytes(log));
        return x.replay(p);
    }

    /** A machine with a program as number 0, booted. */
    TimeMachine booted(String text) {
        TimeMachine x = new TimeMachine();
        same("assemble of a program to boot", assemble(x, 0, text), 0);
        x.boot(0);
        return x;
    }

    static String image(TimeMachine x, int p) {
        StringBuilder out = new StringBuilder();
        for (int k = 0; x.image(p, k) >= 0; k++) {
            out.append(String.format("%02x", x.image(p, k)));
        }
        return out.toString();
    }

    static String text(TimeMachine x, int p, int address) {
        StringBuilder out = new StringBuilder();
        for (int i = 0; x.text(p, address, i) >= 0; i++) {
            out.append((char) x.text(p, address, i));
        }
        return out.toString();
    }

    static String shown(TimeMachine x) {
        StringBuilder out = new StringBuilder();
        for (int k = 0; x.shown(k) >= 0; k++) {
            out.append((char) x.shown(k));
        }
        return out.toString();
    }

    static String held(TimeMachine x, int p, int d) {
        StringBuilder out = new StringBuilder();
        for (int i = 0; x.held(p, d, i) >= 0; i++) {
            out.append((char) x.held(p, d, i));
        }
        return out.toString();
    }

    static int word(TimeMachine x, int p, int address) {
        return x.peek(p, address) | x.peek(p, address + 1) << 8 | x.peek(p, address + 2) << 16
                | x.peek(p, address + 3) << 24;
    }

    static String log(TimeMachine x) {
        StringBuilder out = new StringBuilder();
        for (int k = 0; x.logByte(k) >= 0; k++) {
            out.append(String.format("%02x", x.logByte(k)));
        }
        return out.toString();
    }
}
