/** Steps of the hart, told by promises 22 and 23: what instructions do, and what traps. */
public final class HartTest {
    private static final Checks c = new Checks();
    private static final Steps t = new Steps(c);

    public static void main(String[] args) {
        c.about("the hart");
        sums();
        products();
        immediates();
        memory();
        jumps();
        shortOnes();
        atomics();
        reservations();
        counters();
        traps();
        illegal();
        c.finish();
    }

    private static void sums() {
        t.with("add", 0x7fffffff, 1, 0x80000000);
        t.with("sub", 0, 1, -1);
        t.with("sll", 1, 33, 2);
        t.with("slt", -1, 0, 1);
        t.with("slt", 0, -1, 0);
        t.with("sltu", -1, 0, 0);
        t.with("sltu", 0, -1, 1);
        t.with("xor", 12, 10, 6);
        t.with("srl", -1, 31, 1);
        t.with("sra", -8, 33, -4);
        t.with("or", 12, 10, 14);
        t.with("and", 12, 10, 8);
        t.gives("li a0, 5\nadd zero, a0, a0\nmv a2, zero", 0);
        t.gives("lui a2, 0xfffff", 0xfffff000);
        t.gives("nop\nauipc a2, 1", 4100);
    }

    private static void products() {
        int least = Integer.MIN_VALUE;
        t.with("mul", 65537, 65537, 131073);
        t.with("mulh", least, least, 0x40000000);
        t.with("mulh", -1, 1, -1);
        t.with("mulhsu", -1, -1, -1);
        t.with("mulhsu", 2, -1, 1);
        t.with("mulhu", -1, -1, -2);
        t.with("div", -7, 2, -3);
        t.with("div", least, -1, least);
        t.with("div", 5, 0, -1);
        t.with("divu", -1, 2, 0x7fffffff);
        t.with("divu", 5, 0, -1);
        t.with("rem", -7, 2, -1);
        t.with("rem", least, -1, 0);
        t.with("rem", -5, 0, -5);
        t.with("remu", -1, 16, 15);
        t.with("remu", -5, 0, -5);
    }

    private static void immediates() {
        t.gives("li a0, 5\naddi a2, a0, -6", -1);
        t.gives("li a0, -5\nslti a2, a0, -4", 1);
        t.gives("li a0, 5\nsltiu a2, a0, -1", 1);
        t.gives("li a0, -1\nsltiu a2, a0, -1", 0);
        t.gives("li a0, 5\nxori a2, a0, -1", -6);
        t.gives("li a0, 5\nori a2, a0, 8", 13);
        t.gives("li a0, 13\nandi a2, a0, -4", 12);
        t.gives("li a0, 1\nslli a2, a0, 31", Integer.MIN_VALUE);
        t.gives("li a0, -1\nsrli a2, a0, 28", 15);
        t.gives("li a0, -16\nsrai a2, a0, 2", -4);
    }

    private static void memory() {
        t.gives("la a0, d\nlb a2, 0(a0)", -12);
        t.gives("la a0, d\nlbu a2, 3(a0)", 0x81);
        t.gives("la a0, d\nlh a2, 2(a0)", (short) 0x8182);
        t.gives("la a0, d\nlhu a2, 0(a0)", 0x83f4);
        t.gives("la a0, d\nlw a2, 0(a0)", 0x818283f4);
        t.gives("la a0, d\nli a1, 0x12345678\nsb a1, 1(a0)\nlw a2, 0(a0)", 0x818278f4);
        t.gives("la a0, d\nli a1, 0x12345678\nsh a1, 2(a0)\nlw a2, 0(a0)", 0x567883f4);
        t.gives("la a0, d\nli a1, 0x12345678\nsw a1, 4(a0)\nlw a2, 4(a0)", 0x12345678);
        t.gives("addi sp, sp, -4\nli a1, 9\nsw a1, 0(sp)\nc.lwsp a2, 0", 9);
        t.gives("lui a0, 16\nlw a2, -4(a0)\nli a2, 1", 1);
    }

    private static void jumps() {
        t.gives("jal a2, 1f\nnop\n1: nop", 4);
        t.gives("c.nop\nla a0, 1f\njalr a2, 1(a0)\nli a2, 0\n1: nop", 14);
        t.gives("la a0, 1f\njalr a2, -4(a0)\nli a2, 5\nnop\n1: nop", 12);
        t.gives("li a2, 1\nbeq a2, a2, 1f\nli a2, 0\n1: nop", 1);
        t.gives("li a2, 1\nbne a2, a2, 1f\nli a2, 0\n1: nop", 0);
        t.gives("li a2, -1\nblt a2, zero, 1f\nli a2, 0\n1: nop", -1);
        t.gives("li a2, -1\nbltu a2, zero, 1f\nli a2, 0\n1: nop", 0);
        t.gives("li a2, -1\nbge a2, zero, 1f\nli a2, 0\n1: nop", 0);
        for (String equal : new String[] {"blt", "bltu", "bne"}) {
            t.gives("li a2, 5\nli a0, 5\n" + equal + " a2, a0, 1f\nli a2, 0\n1: nop", 0);
        }
        for (String equal : new String[] {"bge", "bgeu", "beq"}) {
            t.gives("li a2, 5\nli a0, 5\n" + equal + " a2, a0, 1f\nli a2, 0\n1: nop", 5);
        }
        t.gives("li a2, -1\nbgeu a2, zero, 1f\nli a2, 0\n1: nop", -1);
        t.gives("li a2, 3\nli a0, 2\n1: addi a2, a2, 5\naddi a0, a0, -1\nbnez a0, 1b", 13);
    }

    private static void shortOnes() {
        t.gives("c.addi4spn a2, 1020", 65536 + 1020);
        t.gives("la a0, d\nc.lw a2, 4(a0)", 0x7fffffff);
        t.gives("la a0, d\nli a1, 6\nc.sw a1, 64(a0)\nlw a2, 64(a0)", 6);
        t.gives("li a2, 5\nc.addi a2, -32", -27);
        t.gives("c.jal 1f\nnop\n1: mv a2, ra", 2);
        t.gives("c.li a2, 3\nc.j 1f\nc.li a2, 4\n1: c.nop", 3);
        t.gives("c.addi16sp -512\nmv a2, sp", 65536 - 512);
        t.gives("c.lui a2, -1", -4096);
        t.gives("c.lui a2, 31", 31 << 12);
        t.gives("li a2, -1\nc.srli a2, 4", 0x0fffffff);
        t.gives("li a2, -16\nc.srai a2, 4", -1);
        t.gives("li a2, -1\nc.andi a2, -32", -32);
        t.gives("li a2, 5\nli a3, 6\nc.sub a2, a3", -1);
        t.gives("li a2, 5\nli a3, 6\nc.xor a2, a3", 3);
        t.gives("li a2, 5\nli a3, 6\nc.or a2, a3", 7);
        t.gives("li a2, 5\nli a3, 6\nc.and a2, a3", 4);
        t.gives("li a2, 5\nc.beqz a2, 1f\nli a2, 6\n1: c.nop", 6);
        t.gives("li a2, 5\nc.bnez a2, 1f\nli a2, 6\n1: c.nop", 5);
        t.gives("li a2, 5\nc.slli a2, 4", 80);
        t.gives("c.addi16sp -256\nli a2, 7\nc.swsp a2, 252\nli a2, 0\nc.lwsp a2, 252", 7);
        t.gives("la a0, 1f\nc.jalr a0\nc.nop\n1: mv a2, ra", 10);
        t.gives("la a0, 1f\nli a2, 1\nc.jr a0\nli a2, 2\n1: c.nop", 1);
        t.gives("li a0, 4\nc.mv a2, a0\nc.add a2, a0", 8);
        t.gives("li a2, 4\nc.mv zero, a2\nc.add zero, a2\nc.li zero, 1\nc.addi zero, 2\nc.lui zero, 3\nadd a2, a2, zero", 4);
    }

    private static void atomic(String name, int b, int due) {
        t.gives("la a0, d\nli a1, " + b + "\n" + name + " a3, a1, (a0)\nlw a2, 0(a0)", due);
        t.gives("la a0, d\nli a1, " + b + "\n" + name + " a2, a1, (a0)", 0x818283f4);
        t.gives("la a0, d\nli a1, " + b + "\n" + name + ".aqrl zero, a1, (a0)\nlw a2, 0(a0)", due);
    }

    private static void atomics() {
        int old = 0x818283f4;
        atomic("amoswap.w", 5, 5);
        atomic("amoadd.w", 5, old + 5);
        atomic("amoxor.w", -1, ~old);
        atomic("amoand.w", 255, 0xf4);
        atomic("amoor.w", 255, old | 255);
        atomic("amomin.w", 5, old);
        atomic("amomax.w", 5, 5);
        atomic("amominu.w", 5, 5);
        atomic("amomaxu.w", 5, old);
    }

    private static void reservations() {
        String begin = "la a0, d\nli a1, 9\nlr.w a3, (a0)\n";
        t.gives(begin + "sc.w a2, a1, (a0)", 0);
        t.gives(begin + "sc.w a3, a1, (a0)\nlw a2, 0(a0)", 9);
        t.gives(begin + "sc.w a3, a1, (a0)\nsc.w a2, a1, (a0)", 1);
        t.gives("la a0, d\nli a2, 9\nsc.w a2, a2, (a0)", 1);
        t.gives(begin + "sw a1, 4(a0)\nsc.w a2, a1, (a0)", 0);
        t.gives(begin + "sb a1, 3(a0)\nsc.w a2, a1, (a0)", 1);
        t.gives(begin + "amoor.w zero, zero, (a0)\nsc.w a2, a1, (a0)", 1);
        t.gives(begin + "addi a0, a0, 4\nlr.w a3, (a0)\nsc.w a2, a1, (a0)", 0);
        t.gives(begin + "addi a4, a0, 4\nlr.w a3, (a4)\nsc.w a2, a1, (a0)", 1);
        t.gives(begin + "addi a4, a0, 4\nsc.w a3, a1, (a4)\nsc.w a2, a1, (a0)", 1);
        t.gives(begin + "li a7, 15\necall\nla a0, d\nsc.w a2, a1, (a0)", 0);
        t.gives(begin + "li a7, 5\necall\nla a0, d\nsc.w a2, a1, (a0)", 1);
        // A pipe's numbers go behind the reserved word.
        t.gives(begin + "addi a0, a0, 8\nli a7, 5\necall\nla a0, d\nsc.w a2, a1, (a0)", 0);
        String fork = begin + "li a7, 1\necall\nbeqz a0, 1f\nli a7, 15\necall\n1: la a0, d\nsc.w a2, a1, (a0)";
        // The child's tick comes in between; behind it the word is reserved no more.
        TimeMachine x = c.booted(fork + "\nebreak\n.data\nd: .word 1");
        x.run(40);
        c.same("ended", x.reason(), 2);
        x.go((int) x.count(0) - 1);
        c.same("another process ran", x.register((int) x.count(2), 12), 1);
    }

    private static void counters() {
        t.gives("nop\nnop\nrdinstret a2", 2);
        t.gives("nop\nnop\nnop\nrdcycle a2", 3);
        t.gives("li a7, 4\necall\nrdinstret a2", 1);
        t.gives("rdinstreth a2", 0);
        t.gives("rdcycleh a2", 0);
        t.gives(".word 115 | 7 << 12 | 12 << 7 | 3074 << 20", 0);
        t.gives("nop\n.word 115 | 6 << 12 | 12 << 7 | 3072 << 20", 1);
        TimeMachine x = c.booted("rdtime a2\nrdtimeh a3\nebreak");
        x.outside(3, (3L << 32) + 17, 0);
        x.run(2);
        c.same("rdtime", x.register(0, 12), 17);
        c.same("rdtimeh", x.register(0, 13), 3);
        c.same("retired", x.count(14), 2);
    }

    private static void traps() {
        String[] fetch = {"li a0, 1024\njr a0", "li a0, 65536\njr a0", "li a0, -2\njr a0", "j 4096", "li a0, 30000\njr a0"};
        for (String lines : fetch) {
            c.same("FETCH of " + lines, t.signal(lines), 11);
        }
        c.same("an odd place has its lowest bit taken away", t.signal("la a0, 2f\nori a0, a0, 1\njr a0\n2: nop"), 0);
        c.same("BREAK", t.signal("ebreak"), 5);
        c.same("BREAK, short", t.signal("c.ebreak"), 5);
        c.same("MISALIGNED", t.signal("la a0, d\nlh a1, 1(a0)"), 7);
        c.same("MISALIGNED", t.signal("la a0, d\nlw a1, 2(a0)"), 7);
        c.same("MISALIGNED", t.signal("la a0, d\nsh a1, 3(a0)"), 7);
        c.same("MISALIGNED", t.signal("la a0, d\nsw a1, 1(a0)"), 7);
        c.same("MISALIGNED, asked ahead of LOAD", t.signal("lw a1, -3(zero)"), 7);
        c.same("MISALIGNED, asked ahead of STORE", t.signal("sh a1, -3(zero)"), 7);
        c.same("MISALIGNED, atomic", t.signal("la a0, d+2\nlr.w a1, (a0)"), 7);
        c.same("MISALIGNED, atomic", t.signal("la a0, d+2\namoadd.w a1, a1, (a0)"), 7);
        c.same("LOAD", t.signal("lw a1, -4(zero)"), 11);
        c.same("LOAD", t.signal("li a0, 20000\nlbu a1, (0)(a0)"), 11);
        c.same("LOAD of text", t.signal("lw a1, 0(zero)"), 0);
        c.same("STORE to text", t.signal("sw a1, 0(zero)"), 11);
        c.same("STORE", t.signal("li a0, 65536\nsb a1, 0(a0)"), 11);
        c.same("STORE to the stack", t.signal("sb a1, -1(sp)"), 0);
        c.same("load reserved of text", t.signal("lr.w a1, (zero)"), 0);
        c.same("store conditional to text, nothing being reserved", t.signal("sc.w a1, a1, (zero)"), 11);
        c.same("atomic to text", t.signal("amoor.w a1, a1, (zero)"), 11);
        c.same("an instruction that is partly on a page", t.lastSignal("j 2f\n.align 10\n.space 1022\n2: .half 0x13", ""), 11);
    }

    private static void illegal() {
        int[] words = {0x0000007f, 0x00001067, 0x00002063, 0x00003063, 0x00003003, 0x00006003, 0x00007003, 0x00003023,
            0x00007023, 0x02001013, 0x02005013, 0x60005013, 0x04000033, 0x40001033, 0x40004033, 0x42000033, 0x0000302f,
            0x1010202f, 0x2800202f, 0xf800202f, 0x0000200f, 0x00200073, 0x00000173, 0x00002073, 0xc0009073, 0xc000a073,
            0xc0302073, 0xc0001073, 0x30200073, 0x0000005b};
        for (int word : words) {
            c.same("ILLEGAL " + Integer.toHexString(word), t.signal(".word " + word), 4);
        }
        int[] halves = {0x0000, 0x2000, 0x6000, 0x8000, 0xa000, 0xe000, 0x6101, 0x6001, 0x9001, 0x9401, 0x9c01,
            0x1002, 0x4002, 0x8002, 0x2002, 0x6002, 0xa002, 0xe002};
        for (int half : halves) {
            c.same("ILLEGAL " + Integer.toHexString(half), t.signal(".half " + half), 4);
        }
        int[] fine = {0x0001, 0x0081, 0x4001, 0x6005, 0x0002, 0x800a, 0x8401, 0x0009};
        for (int half : fine) {
            c.same("not illegal " + Integer.toHexString(half), t.signal("li s0, 0\nli sp, 0\n.half " + half), 0);
        }
        c.same("a fence with other bits", t.signal(".word 0x0330000f"), 0);
        c.same("a fence.i with other bits", t.signal(".word 0x1230118f"), 0);
        c.same("an order's bits", t.signal("la a0, d\n.word 0x0605252f"), 0);
    }
}
