/** Programs by chance that ask the kernel: calls with arguments that are often good, processes that share things. */
final class ModelCalls {
    /** Processes that never wait nor end by themselves, and write by turns. */
    static final String LOOP = "la a0, buf\nli a7, 5\necall\nli a7, 1\necall\nli a7, 1\necall\nla s5, buf\nli s6, 7\n"
            + "1: lw t0, 8(s5)\naddi t0, t0, 1\nsw t0, 8(s5)\nrem t1, t0, s6\nbnez t1, 2f\nadd t2, s5, s7\n"
            + "sb t0, 16(t2)\naddi s7, s7, 1\nandi s7, s7, 255\nli a0, 1\nla a1, buf + 16\nli a2, 3\nli a7, 7\necall\n"
            + "li a7, 15\necall\n2: lr.w t3, (s5)\namoadd.w t4, t3, (s5)\nsc.w t3, t4, (s5)\nj 1b\n"
            + ".data\nbuf: .space 300\n";
    private static final String[] NAMES = {"n0", "n1", "n2", "n3"};
    private static final String[] PLACES = {"buf", "buf + 1", "edge - 2", "edge - 300", "buf + 100"};
    private static final int[] AMOUNTS = {0, 1, 2, 3, 4, 5, 8, 20, 100, 200, 300, 400, 500, 511, 512};

    private final Chance chance;

    ModelCalls(Chance chance) {
        this.chance = chance;
    }

    /** A call whose arguments are numbers or places; "" leaves what is there. */
    private static String call(int number, Object... arguments) {
        StringBuilder out = new StringBuilder();
        for (int i = 0; i < arguments.length; i++) {
            if (arguments[i] instanceof Integer) {
                out.append("li a" + i + ", " + arguments[i] + "\n");
            } else if (!arguments[i].equals("")) {
                out.append("la a" + i + ", " + arguments[i] + "\n");
            }
        }
        return out + "li a7, " + number + "\necall\n";
    }

    String program() {
        int sort = chance.below(6);
        String body = sort == 0 ? crowd() : sort == 1 ? piping() : sort == 2 ? filing()
                : sort == 3 ? piping() + filing() + anything() : anything();
        String end = chance.of("j 0", "li a7, 0\necall", "j .", "li a7, 21\necall\nj .-6", "la t0, 1b\njr t0", "j 0");
        String hand = chance.of("", call(4), "ebreak\n", call(15), "sb s7, 0(s5)\n");
        return "la s5, buf\n" + body + "1: 2: " + end + "\nhand: addi s7, s7, 1\n" + hand + call(18)
                + ".data\nbuf: .ascii \"some bytes to write\"\n.space 200\nn0: .asciz \"one\"\nn1: .asciz \"two\"\n"
                + "n2: .asciz \"123456789012345\"\nn3: .asciz \"four\"\nn4: .asciz \"a b\"\n.space "
                + chance.from(900, 1200) + "\nedge0: .align 10\nedge: .word 5\n";
    }

    /** Any argument of a call. */
    private String argument(int r) {
        switch (chance.below(14)) {
            case 0:
                return "li a" + r + ", " + chance.any();
            case 1:
                return "li a" + r + ", " + chance.from(-100, 70000);
            case 2:
            case 3:
                String place = chance.of("n0", "n1", "n2", "n3", "n4", "buf", "buf + 4", "edge", "edge - 4", "edge + 2");
                return "la a" + r + ", " + place;
            case 4:
                return "li a" + r + ", " + (1024 * chance.below(66) + chance.from(-4, 4));
            case 5:
                return "mv a" + r + ", " + chance.of("s2", "s3", "sp", "a0", "s4");
            case 6:
                return "li a" + r + ", " + chance.of(0, 1, 2, 511, 512, 513, 300, 65528, 60416, 60417);
            default:
                return "li a" + r + ", " + chance.from(-1, 16);
        }
    }

    /** A call with arguments that may well be good. */
    private String likely() {
        String name = chance.of(NAMES);
        int d = chance.below(chance.once(4) ? 16 : 5);
        switch (chance.below(20)) {
            case 0:
            case 1:
                return call(1) + chance.of("", "mv s2, a0\n", "bnez a0, 1f\n", "bnez a0, 2f\n");
            case 2:
                return call(2, chance.below(4));
            case 3:
                return call(3) + "mv s3, a0\n";
            case 4:
                return call(5, chance.of("buf", "edge - 4", "edge"));
            case 5:
            case 6:
                return call(6, d, chance.of(PLACES), chance.of(AMOUNTS));
            case 7:
            case 8:
                return call(7, d, chance.of(PLACES), chance.of(AMOUNTS));
            case 9:
            case 10:
                return call(10, name, chance.once(3) ? chance.below(64) : chance.below(8) * 8 + 3) + "mv s4, a0\n";
            case 11:
                return call(12, d, chance.from(-200, 600), chance.below(3));
            case 12:
                return call(chance.of(8, 9), d, chance.from(-1, 16));
            case 13:
                return call(chance.of(11, 13), name, chance.of(NAMES));
            case 14:
                String store = "li t0, " + (2048 + 4 * chance.below(15000)) + "\nsw t0, 0(t0)\n";
                return call(14, 2048 + chance.below(60) * 1000) + chance.of("", store);
            case 15:
                return call(16, chance.below(5), chance.from(1, 15));
            case 16:
                return call(17, chance.from(1, 15), "hand");
            case 17:
                return call(19, chance.below(60));
            case 18:
                return call(chance.of(15, 20, 21, 4, 15));
            default:
                return call(chance.of(0, 18), chance.below(300));
        }
    }

    private String anything() {
        StringBuilder out = new StringBuilder();
        for (int n = chance.from(2, 31); n > 0; n--) {
            int what = chance.below(20);
            if (what < 14) {
                out.append(likely());
            } else if (what < 16) {
                out.append(argument(0) + "\n" + argument(1) + "\n" + argument(2) + "\n" + call(chance.from(-1, 22)));
            } else if (what == 16) {
                out.append("lr.w t0, (s5)\n" + chance.of("", "sb t0, 3(s5)\n", "sb t0, 4(s5)\n", call(15), "nop\nnop\n")
                        + "addi t0, t0, 1\nsc.w t1, t0, (s5)\nadd s6, s6, t1\n");
            } else if (what == 17) {
                out.append(chance.of("amoadd.w t0, s5, (s5)", "sw t0, 8(s5)", "sh s5, -2(sp)", "sb s5, -1024(sp)", "lw t0, 0(s5)",
                        "ebreak", ".word 0", "lw t0, 1(s5)", "lw t0, 0(zero)", "sw t0, 0(zero)", "jr s5") + "\n");
            } else {
                out.append(chance.of("1:", "2:", "bnez s6, 1f", "rdtime t2", "beqz s2, 2f", "1: 2:") + "\n");
            }
        }
        return out.toString();
    }

    /** Pipes between processes that read and write any number of bytes. */
    private String piping() {
        StringBuilder out = new StringBuilder(call(5, "buf"));
        for (int i = chance.below(3); i > 0; i--) {
            out.append(call(1)).append(chance.of("", "mv s2, a0\n"));
        }
        for (int i = chance.from(4, 15); i > 0; i--) {
            int d = chance.of(2, 3, 3, 2, 4, 5);
            switch (chance.below(10)) {
                case 0:
                    out.append(call(8, d));
                    break;
                case 1:
                    out.append(call(9, d, chance.of(-1, 2, 3, 7)));
                    break;
                case 2:
                    String all = "4: " + call(9, 1, -1) + "bgez a0, 4b\n";
                    out.append(chance.of(call(15), all, call(5, "edge - 4"), call(1), call(3), "beqz s2, 1f\n",
                            "bnez s2, 1f\n1:\n"));
                    break;
                default:
                    boolean reads = chance.below(9) < 4;
                    int end = chance.once(3) ? d : reads ? 2 : 3;
                    out.append(call(reads ? 6 : 7, end, chance.of(PLACES), chance.of(AMOUNTS)));
                    break;
            }
        }
        return out.toString();
    }

    /** Files that are opened, written, read and lose their names. */
    private String filing() {
        StringBuilder out = new StringBuilder();
        if (chance.once(4)) {
            out.append(opening());
        }
        for (int i = chance.from(1, 4); i > 0; i--) {
            out.append(call(10, chance.of(NAMES), chance.of(11, 11, 15, 10, 9, 43)));
        }
        for (int i = chance.from(4, 15); i > 0; i--) {
            int d = chance.from(2, 5);
            int what = chance.below(8);
            out.append(what == 0 ? call(12, d, chance.from(-40, 560), chance.below(3)) : what == 1 ? likely()
                    : call(chance.of(6, 7, 7), d, "buf", chance.of(AMOUNTS)));
        }
        return out.toString();
    }

    /** Opens until there is no descriptor, no file or no opening more. */
    private String opening() {
        String next = chance.of("", "addi s9, s9, 1\n");
        String close = chance.of("", call(8));
        return call(1).repeat(chance.below(3)) + "la s8, n0\nli s9, 65\nli s10, 18\n5: sb s9, 0(s8)\nmv a0, s8\n"
                + call(10, "", 11) + "mv s11, a0\n" + close + next
                + "addi s10, s10, -1\nbltz s11, 6f\nbnez s10, 5b\n6: " + call(15);
    }

    /** So many pages that few frames are left, or none; then whatever needs some. */
    private String crowd() {
        StringBuilder out = new StringBuilder();
        if (chance.once(2)) {
            out.append(call(17, 7, "hand") + call(17, 11, "hand"));
        }
        if (chance.once(2)) {
            out.append(call(10, "n0", 11) + call(7, "", "buf", 20) + call(12, 2, 0, 0));
        }
        boolean full = !chance.once(3);
        out.append(full ? "" : call(14, chance.from(20000, 60000)));
        out.append(call(1).repeat(chance.from(2, 4)));
        if (full) {
            // As far as there are frames, one process behind the other.
            out.append("li s8, 60416\nli s9, -1024\n3: mv a0, s8\nadd s8, s8, s9\n" + call(14) + "bltz a0, 3b\n" + call(15));
        } else {
            out.append("li t0, 3072\n1: sw t0, 0(t0)\nli t1, 1024\nadd t0, t0, t1\nli t1, " + chance.from(4000, 44000)
                    + "\nblt t0, t1, 1b\n");
        }
        for (int i = 10; i > 0; i--) {
            out.append(chance.once(3) ? likely() : chance.of(call(5, "buf"), call(5, "edge - 4"), call(6, 2, "edge - 3", 6),
                    call(7, 3, "buf", 6), "la t0, edge\nsb t0, 1(t0)\n", "sw sp, -4(sp)\n", call(14, 60000), call(2, 0),
                    "lr.w t1, (s5)\nsc.w t2, t1, (s5)\n", "amoor.w t1, s5, (s5)\n", call(15), call(1), call(14, 9000)));
        }
        return out.toString();
    }
}
