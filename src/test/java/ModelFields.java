import java.util.ArrayList;
import java.util.HashMap;
import java.util.List;
import java.util.Map;

/** The tables of the model: which bits the operands of an instruction have, told as the document tells them. */
final class ModelFields {
    /** Where an operand's bits stand ("5:3@12 2@6": bits 5 .. 3 of it from bit 12 down, bit 2 in 6), what it may be. */
    record Field(String layout, int least, int most, int multiple, int never, boolean register, boolean target) {
        boolean fits(int v) {
            return v >= least && v <= most && Math.floorMod(v, multiple) == 0 && v != never;
        }

        int place(int v) {
            int bits = 0;
            for (int[] pair : pairs(layout)) {
                bits |= (v >>> pair[0] & 1) << pair[1];
            }
            return bits;
        }

        int gather(int bits) {
            return ModelFields.gather(layout, bits, least < 0) + (register && least == 8 ? 8 : 0);
        }
    }

    /** A name, its operands, and the bits that are always there. */
    record Line(String name, String operands, int bits) {
    }

    static final String[] NAMES = ("zero ra sp gp tp t0 t1 t2 s0 s1 a0 a1 a2 a3 a4 a5 a6 a7 s2 s3 s4 s5 s6 s7 s8 s9 s10 s11 "
            + "t3 t4 t5 t6").split(" ");
    static final Map<Character, Field> FIELDS = new HashMap<>();
    static final List<Line> LINES = new ArrayList<>();
    static final Map<String, Line> OTHERS = new HashMap<>();
    private static final int NEVER = Integer.MIN_VALUE;

    private ModelFields() {
    }

    private static void register(char letter, String layout, int least, int most, int never) {
        FIELDS.put(letter, new Field(layout, least, most, 1, never, true, false));
    }

    private static void number(char letter, String layout, int least, int most, int multiple, int never) {
        FIELDS.put(letter, new Field(layout, least, most, multiple, never, false, false));
    }

    private static void target(char letter, String layout, int least, int most) {
        FIELDS.put(letter, new Field(layout, least, most, 2, NEVER, false, true));
    }

    static {
        register('d', "4:0@11", 0, 31, NEVER);
        register('a', "4:0@19", 0, 31, NEVER);
        register('b', "4:0@24", 0, 31, NEVER);
        register('n', "4:0@11", 0, 31, 0);
        register('l', "4:0@11", 0, 31, 2);
        register('s', "4:0@6", 0, 31, NEVER);
        register('z', "4:0@6", 0, 31, 0);
        register('p', "2:0@4", 8, 15, NEVER);
        register('q', "2:0@9", 8, 15, NEVER);
        number('I', "11:0@31", -2048, 2047, 1, NEVER);
        number('H', "4:0@24", 0, 31, 1, NEVER);
        number('S', "11:5@31 4:0@11", -2048, 2047, 1, NEVER);
        number('U', "19:0@31", 0, 1048575, 1, NEVER);
        target('T', "12|10:5@31 4:1|11@11", -4096, 4094);
        target('J', "20|10:1|11|19:12@31", -1048576, 1048574);
        number('N', "5@12 4:0@6", -32, 31, 1, NEVER);
        number('M', "5@12 4:0@6", -32, 31, 1, 0);
        number('A', "5:4|9:6|2|3@12", 4, 1020, 4, NEVER);
        number('W', "5:3@12 2@6 6@5", 0, 124, 4, NEVER);
        target('K', "11|4|9:8|10|6|7|3:1|5@12", -2048, 2046);
        number('Y', "9@12 4|6|8:7|5@6", -512, 496, 16, 0);
        number('V', "4:0@6", 0, 31, 1, NEVER);
        target('L', "8|4:3@12 7:6|2:1|5@6", -256, 254);
        number('P', "5@12 4:2|7:6@6", 0, 252, 4, NEVER);
        number('Q', "5:2|7:6@12", 0, 252, 4, NEVER);
        longOnes();
        shortOnes();
        others();
    }

    private static void line(String name, String operands, int bits) {
        LINES.add(new Line(name, operands, bits));
    }

    private static void longOnes() {
        String[] sums = "add 0 0,sub 0 32,sll 1 0,slt 2 0,sltu 3 0,xor 4 0,srl 5 0,sra 5 32,or 6 0,and 7 0".split(",");
        for (String it : sums) {
            String[] w = it.split(" ");
            line(w[0], "d,a,b", 51 | Integer.parseInt(w[1]) << 12 | Integer.parseInt(w[2]) << 25);
        }
        String[] products = "mul mulh mulhsu mulhu div divu rem remu".split(" ");
        for (int f = 0; f < 8; f++) {
            line(products[f], "d,a,b", 51 | f << 12 | 1 << 25);
        }
        several("addi 0,slti 2,sltiu 3,xori 4,ori 6,andi 7", "d,a,I", 19);
        several("slli 1,srli 5", "d,a,H", 19);
        line("srai", "d,a,H", 19 | 5 << 12 | 32 << 25);
        several("lb 0,lh 1,lw 2,lbu 4,lhu 5", "d,I(a)", 3);
        line("jalr", "d,I(a)", 103);
        several("sb 0,sh 1,sw 2", "b,S(a)", 35);
        line("lui", "d,U", 55);
        line("auipc", "d,U", 23);
        several("beq 0,bne 1,blt 4,bge 5,bltu 6,bgeu 7", "a,b,T", 99);
        line("jal", "d,J", 111);
        String[] atomic = ("sc 3,amoswap 1,amoadd 0,amoxor 4,amoand 12,amoor 8,amomin 16,amomax 20,amominu 24,"
                + "amomaxu 28,lr 2").split(",");
        String[] ends = {"", ".rl", ".aq", ".aqrl"};
        for (String it : atomic) {
            String[] w = it.split(" ");
            for (int end = 0; end < 4; end++) {
                line(w[0] + ".w" + ends[end], w[0].equals("lr") ? "d,(a)" : "d,b,(a)",
                        47 | 2 << 12 | Integer.parseInt(w[1]) << 27 | end << 25);
            }
        }
        String[] counters = "rdcycle 3072,rdtime 3073,rdinstret 3074,rdcycleh 3200,rdtimeh 3201,rdinstreth 3202".split(",");
        for (String it : counters) {
            String[] w = it.split(" ");
            line(w[0], "d", 115 | 2 << 12 | Integer.parseInt(w[1]) << 20);
        }
        line("fence", "", 267386895);
        line("fence.i", "", 4111);
        line("ecall", "", 115);
        line("ebreak", "", 1048691);
    }

    private static void several(String names, String operands, int bits) {
        for (String it : names.split(",")) {
            String[] w = it.split(" ");
            line(w[0], operands, bits | Integer.parseInt(w[1]) << 12);
        }
    }

    private static void small(String name, String operands, int q, int f, int more) {
        line(name, operands, q | f << 13 | more);
    }

    private static void shortOnes() {
        small("c.addi4spn", "p,A", 0, 0, 0);
        small("c.lw", "p,W(q)", 0, 2, 0);
        small("c.sw", "p,W(q)", 0, 6, 0);
        line("c.nop", "", 1);
        small("c.addi", "d,N", 1, 0, 0);
        small("c.jal", "K", 1, 1, 0);
        small("c.j", "K", 1, 5, 0);
        small("c.li", "d,N", 1, 2, 0);
        small("c.addi16sp", "Y", 1, 3, 2 << 7);
        small("c.lui", "l,M", 1, 3, 0);
        small("c.srli", "q,V", 1, 4, 0);
        small("c.srai", "q,V", 1, 4, 1 << 10);
        small("c.andi", "q,N", 1, 4, 2 << 10);
        String[] two = "c.sub c.xor c.or c.and".split(" ");
        for (int k = 0; k < 4; k++) {
            small(two[k], "q,p", 1, 4, 3 << 10 | k << 5);
        }
        small("c.beqz", "q,L", 1, 6, 0);
        small("c.bnez", "q,L", 1, 7, 0);
        small("c.slli", "d,V", 2, 0, 0);
        small("c.lwsp", "n,P", 2, 2, 0);
        small("c.jr", "n", 2, 4, 0);
        small("c.mv", "d,z", 2, 4, 0);
        line("c.ebreak", "", 36866);
        small("c.jalr", "n", 2, 4, 1 << 12);
        small("c.add", "d,z", 2, 4, 1 << 12);
        small("c.swsp", "s,Q", 2, 6, 0);
    }

    /** Which of those above, and with which operands: a letter is one that is given, others stand as they are. */
    private static void others() {
        String[] all = {"nop||addi zero zero 0", "mv|d,a|addi d a 0", "not|d,a|xori d a -1", "neg|d,b|sub d zero b",
            "seqz|d,a|sltiu d a 1", "snez|d,b|sltu d zero b", "sltz|d,a|slt d a zero", "sgtz|d,b|slt d zero b",
            "jr|a|jalr zero 0 a", "ret||jalr zero 0 ra", "call|t|jal ra t", "j|t|jal zero t", "tail|t|jal zero t",
            "beqz|a,t|beq a zero t", "bnez|a,t|bne a zero t", "bgez|a,t|bge a zero t", "bltz|a,t|blt a zero t",
            "blez|b,t|bge zero b t", "bgtz|b,t|blt zero b t", "bgt|b,a,t|blt a b t", "ble|b,a,t|bge a b t",
            "bgtu|b,a,t|bltu a b t", "bleu|b,a,t|bgeu a b t"};
        for (String it : all) {
            String[] w = it.split("\\|");
            OTHERS.put(w[0], new Line(w[2], w[1], 0));
        }
    }

    static int[][] pairs(String layout) {
        List<int[]> all = new ArrayList<>();
        for (String group : layout.split(" ")) {
            String[] sides = group.split("@");
            int to = Integer.parseInt(sides[1]);
            for (String range : sides[0].split("\\|")) {
                String[] ends = range.split(":");
                int high = Integer.parseInt(ends[0]);
                int low = Integer.parseInt(ends[ends.length - 1]);
                for (int k = high; k >= low; k--) {
                    all.add(new int[] {k, to});
                    to--;
                }
            }
        }
        return all.toArray(new int[0][]);
    }

    private static final Map<String, int[][]> KNOWN = new HashMap<>();

    /** The number whose bits stand so; with a sign, its highest bit is that. */
    static int gather(String layout, int bits, boolean signed) {
        int v = 0;
        int highest = 0;
        for (int[] pair : KNOWN.computeIfAbsent(layout, ModelFields::pairs)) {
            v |= (bits >>> pair[1] & 1) << pair[0];
            highest = Math.max(highest, pair[0]);
        }
        return signed && (v >> highest & 1) != 0 ? v - (1 << highest + 1) : v;
    }

    /** -1 for a name that no register has. */
    static int registerNamed(String name) {
        for (int r = 0; r < 32; r++) {
            if (NAMES[r].equals(name) || ("x" + r).equals(name)) {
                return r;
            }
        }
        return name.equals("fp") ? 8 : -1;
    }

    /** The text of bits. */
    static String text(int bits) {
        boolean large = (bits & 3) == 3;
        for (Line it : LINES) {
            if (((it.bits & 3) == 3) == large) {
                String made = lineFor(it, bits);
                if (made != null) {
                    return made;
                }
            }
        }
        return (large ? ".word " : ".half ") + Integer.toUnsignedString(bits);
    }

    private static String lineFor(Line it, int bits) {
        int made = it.bits;
        StringBuilder out = new StringBuilder(it.name);
        for (int i = 0; i < it.operands.length(); i++) {
            char c = it.operands.charAt(i);
            if (i == 0) {
                out.append(' ');
            }
            Field field = FIELDS.get(c);
            if (field == null) {
                out.append(c == ',' ? ", " : String.valueOf(c));
                continue;
            }
            int v = field.gather(bits);
            if (!field.fits(v)) {
                return null;
            }
            made |= field.place(v);
            if (field.register) {
                out.append(NAMES[v]);
            } else {
                out.append(field.target ? v < 0 ? "." : ".+" : "").append(v);
            }
        }
        return made == bits ? out.toString() : null;
    }
}
