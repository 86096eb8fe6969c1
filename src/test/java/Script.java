/** Makes a program of kernel's calls, whose answers are kept in a row of words behind the label answers. */
final class Script {
    static final int EXIT = 0;
    static final int FORK = 1;
    static final int EXEC = 2;
    static final int WAIT = 3;
    static final int SELF = 4;
    static final int PIPE = 5;
    static final int READ = 6;
    static final int WRITE = 7;
    static final int CLOSE = 8;
    static final int DUP = 9;
    static final int OPEN = 10;
    static final int UNLINK = 11;
    static final int SEEK = 12;
    static final int RENAME = 13;
    static final int GROW = 14;
    static final int YIELD = 15;
    static final int SIGNAL = 16;
    static final int HANDLER = 17;
    static final int BACK = 18;
    static final int SLEEP = 19;
    static final int CLOCK = 20;
    static final int RANDOM = 21;

    private final StringBuilder text = new StringBuilder();
    private final StringBuilder data = new StringBuilder();
    private int answers;

    Script add(String lines) {
        text.append(lines).append('\n');
        return this;
    }

    Script data(String lines) {
        data.append(lines).append('\n');
        return this;
    }

    /** A call whose arguments are numbers, or names whose addresses are meant; a register's name is left as it is. */
    Script call(int number, Object... arguments) {
        for (int i = 0; i < arguments.length; i++) {
            if (arguments[i] instanceof Integer) {
                add("li a" + i + ", " + arguments[i]);
            } else if (!arguments[i].equals("a" + i)) {
                String it = (String) arguments[i];
                add((it.startsWith("s") && it.length() == 2 ? "mv a" : "la a") + i + ", " + it);
            }
        }
        return add("li a7, " + number + "\necall");
    }

    /** A call whose answer is kept: its number among these. */
    int kept(int number, Object... arguments) {
        call(number, arguments);
        add("la t0, answers + " + 4 * answers + "\nsw a0, 0(t0)");
        answers++;
        return answers - 1;
    }

    /** Waits for a random word, so that the process stays. */
    Script stay() {
        return add("li a7, 21\necall");
    }

    TimeMachine booted(Checks c) {
        return c.booted(source());
    }

    /** The lines so far, without the data. */
    String lines() {
        return text.toString();
    }

    String source() {
        return text + "\n.data\nanswers: .space " + 4 * Math.max(1, answers) + "\n" + data;
    }

    /** Where the answers are: the first label of the data. */
    static int answer(TimeMachine x, int p, int k) {
        int at = x.program(0, 1);
        return Checks.word(x, p, at + 4 * k);
    }
}
