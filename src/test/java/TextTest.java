import java.util.ArrayList;
import java.util.List;
import java.util.Random;

/** Promise 25: texts of instructions. */
public final class TextTest {
    private static final Checks c = new Checks();
    private static final String[] NAMES = {"zero", "ra", "sp", "gp", "tp", "t0", "t1", "t2", "s0", "s1", "a0", "a1", "a2",
        "a3", "a4", "a5", "a6", "a7", "s2", "s3", "s4", "s5", "s6", "s7", "s8", "s9", "s10", "s11", "t3", "t4", "t5", "t6"};

    public static void main(String[] args) {
        c.about("promise 25");
        lines();
        noInstructions();
        places();
        allShortOnes();
        allShortLines();
        manyLongOnes();
        c.finish();
    }

    private static void text(String bits, String due) {
        TimeMachine x = c.booted(bits);
        c.same("text of " + bits, Checks.text(x, 0, 0), due);
    }

    private static void lines() {
        String[] lines = {"add a0, a1, a2", "sub zero, ra, sp", "mulhsu gp, tp, t6", "addi t0, t1, -2048", "sltiu s0, s1, 2047",
            "slli s2, s3, 31", "srai s10, s11, 0", "lb t3, -1(t4)", "jalr t5, 0(t6)", "sw a7, -4(sp)", "lui a0, 1048575",
            "auipc a0, 0", "beq a0, a1, .+0", "bgeu a0, a1, .-4096", "jal ra, .+1048574", "jal zero, .-2", "lr.w a0, (a1)",
            "lr.w.aq a0, (a1)", "sc.w.rl a0, a1, (a2)", "amomaxu.w.aqrl a0, a1, (a2)", "amoswap.w a0, a1, (a2)",
            "rdcycle a0", "rdinstreth t0", "rdtime zero", "fence", "fence.i", "ecall", "ebreak", "c.addi4spn a0, 1020",
            "c.lw s0, 124(a5)", "c.sw a5, 0(s0)", "c.nop", "c.addi zero, 1", "c.addi a0, 0", "c.jal .-2048", "c.j .+2046",
            "c.li zero, 0", "c.addi16sp -512", "c.lui a0, -1", "c.lui zero, 1", "c.srli a0, 0", "c.srai s1, 31",
            "c.andi a0, -32", "c.sub s0, a5", "c.xor s0, a5", "c.or s0, a5", "c.and s0, a5", "c.beqz a0, .+254",
            "c.bnez a0, .-256", "c.slli zero, 0", "c.lwsp ra, 252", "c.jr ra", "c.mv zero, a0", "c.ebreak", "c.jalr t6",
            "c.add zero, a0", "c.swsp zero, 252"};
        for (String line : lines) {
            text(line, line);
        }
        text("mv a0, a1", "addi a0, a1, 0");
        text("nop", "addi zero, zero, 0");
        text("ret", "jalr zero, 0(ra)");
        text("c.addi zero, 0", "c.nop");
        text("add x8, fp, x31", "add s0, s0, t6");
    }

    private static void noInstructions() {
        text(".half 0", ".half 0");
        text(".half 65534", ".half 65534");
        text(".word 0xffffffff", ".word 4294967295");
        text(".word 0x80007003", ".word 2147512323");
        text(".word 3 | 3 << 12", ".word 12291");
        // The hart does these, but no line becomes them.
        text(".word 0x0ff0000f", "fence");
        text(".word 0x0ff0008f", ".word 267387023");
        text(".word 47 | 2 << 12 | 2 << 27 | 1 << 20", ".word " + (47 | 2 << 12 | 2 << 27 | 1 << 20));
        text(".word 115 | 3 << 12 | 3072 << 20", ".word 3221237875");
        text(".word 115 | 2 << 12 | 1 << 15 | 3072 << 20", ".word " + (0xffffffffL & (115 | 2 << 12 | 1 << 15 | 3072 << 20)));
        text(".word 0x00200073", ".word 2097267");
        text(".half 0x2002 | 1 << 14", ".half 24578");
    }

    private static void places() {
        TimeMachine x = c.booted("c.nop\nadd a0, a1, a2\n.space 1016\n.half 3\n.data\n.word 0x13");
        c.same("at 0", Checks.text(x, 0, 0), "c.nop");
        c.same("at 2", Checks.text(x, 0, 2), "add a0, a1, a2");
        c.same("in the middle", Checks.text(x, 0, 4), "c.addi ra, 17");
        c.same("at an odd address", x.text(0, 3, 0), -1);
        c.same("not all of it on pages that may be carried out", x.text(0, 1022, 0), -1);
        c.same("behind the text", Checks.text(x, 0, 1020), ".half 0");
        c.same("data", x.text(0, 1024, 0), -1);
        c.same("stack", x.text(0, 61440, 0), -1);
        c.same("no page", x.text(0, 4096, 0), -1);
        c.same("below 0", x.text(0, -2, 0), -1);
        c.same("above all", x.text(0, 65536, 0), -1);
        c.same("character below 0", x.text(0, 0, -1), -1);
        c.same("last character", x.text(0, 0, 4), 'p');
        c.same("behind the last", x.text(0, 0, 5), -1);
        c.same("another process", x.text(1, 0, 0), -1);
        c.same("no process", x.text(16, 0, 0), -1);
        c.same("no process", x.text(-1, 0, 0), -1);
    }

    /** Texts of all lines, in parts that the tape can hold, put together and looked at again. */
    private static List<Integer> assembled(List<String> lines, boolean wide) {
        List<Integer> all = new ArrayList<>();
        int from = 0;
        while (from < lines.size()) {
            StringBuilder part = new StringBuilder();
            int to = from;
            while (to < lines.size() && part.length() < 30000) {
                part.append(lines.get(to)).append('\n');
                to++;
            }
            TimeMachine x = new TimeMachine();
            int fault = Checks.assemble(x, 0, part.toString());
            c.same("fault in " + (fault == 0 ? "" : lines.get(from + fault / 16 - 1)), fault, 0);
            for (int k = 0; k < (to - from) * (wide ? 4 : 2); k += wide ? 4 : 2) {
                int low = x.image(0, k) | x.image(0, k + 1) << 8;
                all.add(wide ? low | x.image(0, k + 2) << 16 | x.image(0, k + 3) << 24 : low);
            }
            from = to;
        }
        return all;
    }

    /** Of all bits, the texts; each bit pattern is put where the text of it is asked for. */
    private static List<String> texts(List<Integer> bits, boolean wide) {
        List<String> all = new ArrayList<>();
        int each = wide ? 4 : 2;
        int most = 1500;
        for (int from = 0; from < bits.size(); from += most) {
            StringBuilder part = new StringBuilder();
            int to = Math.min(bits.size(), from + most);
            for (int i = from; i < to; i++) {
                part.append(wide ? ".word " : ".half ").append(bits.get(i)).append('\n');
            }
            TimeMachine x = c.booted(part.toString());
            for (int i = from; i < to; i++) {
                all.add(Checks.text(x, 0, (i - from) * each));
            }
        }
        return all;
    }

    private static void allShortOnes() {
        List<Integer> bits = new ArrayList<>();
        for (int half = 0; half < 65536; half++) {
            if ((half & 3) != 3) {
                bits.add(half);
            }
        }
        List<String> texts = texts(bits, false);
        List<Integer> again = assembled(texts, false);
        for (int i = 0; i < bits.size(); i++) {
            c.same("bits of the text of " + bits.get(i), again.get(i), bits.get(i));
        }
    }

    /** Every line that there is has bits whose text is that line; all other bits are .half. */
    private static void allShortLines() {
        List<String> lines = new ArrayList<>();
        lines.add("c.nop");
        lines.add("c.ebreak");
        for (int offset = -2048; offset <= 2046; offset += 2) {
            lines.add("c.j " + target(offset));
            lines.add("c.jal " + target(offset));
        }
        for (int e = -512; e <= 496; e += 16) {
            if (e != 0) {
                lines.add("c.addi16sp " + e);
            }
        }
        for (int r = 0; r < 32; r++) {
            ofAnyRegister(lines, r);
            if (r >= 8 && r <= 15) {
                ofShortRegister(lines, r);
            }
        }
        List<Integer> bits = assembled(lines, false);
        List<String> texts = texts(bits, false);
        boolean[] met = new boolean[65536];
        for (int i = 0; i < lines.size(); i++) {
            c.same("text of a line", texts.get(i), lines.get(i));
            met[bits.get(i)] = true;
        }
        List<Integer> others = new ArrayList<>();
        for (int half = 0; half < 65536; half++) {
            if ((half & 3) != 3 && !met[half]) {
                others.add(half);
            }
        }
        List<String> none = texts(others, false);
        for (int i = 0; i < others.size(); i++) {
            c.same("text of no line", none.get(i), ".half " + others.get(i));
        }
    }

    private static String target(int offset) {
        return "." + (offset < 0 ? "-" : "+") + Math.abs(offset);
    }

    private static void ofAnyRegister(List<String> lines, int r) {
        for (int e = -32; e <= 31; e++) {
            if (r != 0 || e != 0) {
                lines.add("c.addi " + NAMES[r] + ", " + e);
            }
            lines.add("c.li " + NAMES[r] + ", " + e);
            if (r != 2 && e != 0) {
                lines.add("c.lui " + NAMES[r] + ", " + e);
            }
            if (e >= 0) {
                lines.add("c.slli " + NAMES[r] + ", " + e);
            }
        }
        for (int e = 0; e <= 252; e += 4) {
            if (r != 0) {
                lines.add("c.lwsp " + NAMES[r] + ", " + e);
            }
            lines.add("c.swsp " + NAMES[r] + ", " + e);
        }
        if (r != 0) {
            lines.add("c.jr " + NAMES[r]);
            lines.add("c.jalr " + NAMES[r]);
        }
        for (int b = 1; b < 32; b++) {
            lines.add("c.mv " + NAMES[r] + ", " + NAMES[b]);
            lines.add("c.add " + NAMES[r] + ", " + NAMES[b]);
        }
    }

    private static void ofShortRegister(List<String> lines, int r) {
        for (int e = 4; e <= 1020; e += 4) {
            lines.add("c.addi4spn " + NAMES[r] + ", " + e);
        }
        for (int b = 8; b < 16; b++) {
            for (int e = 0; e <= 124; e += 4) {
                lines.add("c.lw " + NAMES[r] + ", " + e + "(" + NAMES[b] + ")");
                lines.add("c.sw " + NAMES[r] + ", " + e + "(" + NAMES[b] + ")");
            }
            for (String name : new String[] {"c.sub ", "c.xor ", "c.or ", "c.and "}) {
                lines.add(name + NAMES[r] + ", " + NAMES[b]);
            }
        }
        for (int e = -32; e <= 31; e++) {
            lines.add("c.andi " + NAMES[r] + ", " + e);
            if (e >= 0) {
                lines.add("c.srli " + NAMES[r] + ", " + e);
                lines.add("c.srai " + NAMES[r] + ", " + e);
            }
        }
        for (int offset = -256; offset <= 254; offset += 2) {
            lines.add("c.beqz " + NAMES[r] + ", " + target(offset));
            lines.add("c.bnez " + NAMES[r] + ", " + target(offset));
        }
    }

    private static void manyLongOnes() {
        Random random = new Random(7);
        int[] opcodes = {0x37, 0x17, 0x6f, 0x67, 0x63, 0x03, 0x23, 0x13, 0x33, 0x2f, 0x0f, 0x73};
        List<Integer> bits = new ArrayList<>();
        for (int i = 0; i < 12000; i++) {
            int it = random.nextInt() & ~127 | opcodes[i % opcodes.length];
            if (random.nextInt(3) == 0) {
                it &= 0x01ffffff | random.nextInt(2) << 30;
            }
            if (i % opcodes.length == 9) {
                it = it & ~(7 << 12) | 2 << 12;
            }
            bits.add(it);
        }
        List<String> texts = texts(bits, true);
        List<Integer> again = assembled(texts, true);
        int named = 0;
        for (int i = 0; i < bits.size(); i++) {
            c.same("bits of the text of " + bits.get(i), again.get(i), bits.get(i));
            named += texts.get(i).charAt(0) == '.' ? 0 : 1;
        }
        c.same("enough of them have names", named > 5000 ? 1 : 0, 1);
    }
}
