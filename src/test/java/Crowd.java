/** A machine whose processes have taken all frames but seven; of these a child takes some, and then makes a call. */
final class Crowd {
    /** How many frames are free before the child takes any. */
    static final int FREE = 7;
    private final Checks c;

    Crowd(Checks c) {
        this.c = c;
    }

    /** The code of the child: the lowest bits of what the call answered, or 128 + a signal. */
    int code(int taken, int number, Object... arguments) {
        return code(taken, new Script().call(number, arguments).add("li a7, 0\necall").lines());
    }

    /** Likewise, of a child that carries out lines. */
    int code(int taken, String lines) {
        // 0 has 63 pages, and so have three children, all of them but the text's being their own: 63 + 3 * 62 frames.
        Script s = new Script().data(".align 2").data("p: .word 0, 0").data(".space 988").data("b: .space 1000");
        s.call(Script.PIPE, "p").call(Script.WRITE, 3, "p", 8);
        s.call(Script.GROW, 60416).add("li s4, 4\n1: ").call(Script.FORK)
                .add("beqz a0, 2f\naddi s4, s4, -1\nbnez s4, 1b");
        s.call(Script.WAIT).add("srli s5, a0, 8").stay();
        s.add("2: li t3, 1\nbeq s4, t3, 5f");
        s.add("li t0, 1024\nli t2, 60416\n3: sb t0, 0(t0)\naddi t0, t0, 1024\nbne t0, t2, 3b");
        s.add("li t0, 61440\nli t2, 65536\n4: sb t0, 0(t0)\naddi t0, t0, 1024\nbne t0, t2, 4b").stay();
        s.add("5: li t0, 8192\nli t2, " + (8192 + 1024 * taken) + "\nj 7f\n6: sb t0, 0(t0)\naddi t0, t0, 1024\n"
                + "7: bne t0, t2, 6b");
        s.add(lines);
        TimeMachine x = new TimeMachine();
        c.same("fault of a crowd", Checks.assemble(x, 0, s.source()), 0);
        Checks.assemble(x, 1, "li a0, 77\nli a7, 0\necall\n.data\n.byte 1");
        x.boot(0);
        x.run(60000);
        c.same("the parent stays", x.process(0, 7), 21);
        return x.register(0, 21);
    }
}
