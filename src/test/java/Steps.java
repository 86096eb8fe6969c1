/** What comes of lines that a process carries out. */
final class Steps {
    private final Checks c;

    Steps(Checks c) {
        this.c = c;
    }

    /** Register a2 when the lines were carried out; d is the first word of the data. */
    int result(String lines) {
        TimeMachine x = c.booted(lines + "\nebreak\n.data\nd: .word 0x818283f4, 0x7fffffff\n");
        x.run(5000);
        // The break ends the process; the count before shows its registers, and that it came to the break.
        x.go((int) x.count(0) - 1);
        c.same("the place at the end of " + lines.replace('\n', ';'), x.register(0, 32), x.program(0, 0) - 4);
        return x.register(0, 12);
    }

    void gives(String lines, int due) {
        c.same(lines.replace('\n', ';'), result(lines), due);
    }

    /** What an instruction makes of two numbers. */
    void with(String op, int a, int b, int due) {
        gives("li a0, " + a + "\nli a1, " + b + "\n" + op + " a2, a0, a1", due);
    }

    /** A child carries out the lines, and then ends; its parent tells the signal by which it ended, 0 for none. */
    int signal(String lines) {
        return lastSignal(lines + "\nli a7, 0\nli a0, 0\necall", "d: .word 1");
    }

    /** Likewise, with nothing of the text behind the lines. */
    int lastSignal(String lines, String data) {
        TimeMachine x = c.booted("li a7, 1\necall\nbeqz a0, 1f\nli a7, 3\necall\nmv s0, a0\nli a7, 21\necall\n1: "
                + lines
                + "\n.data\n" + data);
        x.run(2000);
        c.same("the parent waits for a random word", x.process(0, 7), 21);
        int code = x.register(0, 8) >> 8;
        return code == 0 ? 0 : code - 128;
    }

    void ends(int signal, String... all) {
        for (String lines : all) {
            c.same("signal of " + lines.replace('\n', ';'), signal(lines), signal);
        }
    }
}
