import java.lang.management.ManagementFactory;
import java.lang.reflect.Array;
import java.lang.reflect.Field;
import java.lang.reflect.Modifier;
import java.util.ArrayDeque;
import java.util.Collections;
import java.util.Deque;
import java.util.IdentityHashMap;
import java.util.Set;

/** Rule 12 of LANGUAGE.md: what an object keeps is made once, by its constructor; what a call makes is small. */
public final class RoomTest {
    // A thrown exception with its trace, or a text's characters, but no row that is kept.
    private static final long SMALL = 2048;
    // Of the 7.3 million fields and elements that all calls of a run have, with room for two objects more.
    private static final long MOST_KEPT = 2_000_000;
    private static final Checks c = new Checks();
    private static final com.sun.management.ThreadMXBean THREADS =
            (com.sun.management.ThreadMXBean) ManagementFactory.getThreadMXBean();

    public static void main(String[] args) throws IllegalAccessException {
        c.about("room");
        // The first time classes are made ready, too.
        calls(new TimeMachine(), false);
        TimeMachine x = new TimeMachine();
        long before = kept(x);
        c.same("kept by a new object: " + before, before <= MOST_KEPT ? 1 : 0, 1);
        calls(x, true);
        long more = kept(x) - before;
        c.same("kept more after all calls: " + more, Math.abs(more) <= SMALL ? 1 : 0, 1);
        c.finish();
    }

    private static void calls(TimeMachine x, boolean asked) {
        programs(x, asked);
        counts(x, asked);
        breaks(x, asked);
        looks(x, asked);
        wrongOnes(x, asked);
    }

    private static void programs(TimeMachine x, boolean asked) {
        c.about("assemble and boot");
        for (int round = 0; round < 3; round++) {
            for (int p = 0; p < 4; p++) {
                int program = p;
                Checks.feed(x, p == 3 ? wide() : ticking());
                small(asked, "assemble", () -> x.assemble(program));
                c.same("assembled", x.program(program, 2) > 0 ? 1 : 0, 1);
                small(asked, "boot", () -> x.boot(program));
            }
        }
        Checks.feed(x, " li a0, @");
        small(asked, "assemble with a fault", () -> x.assemble(0));
        small(asked, "program", () -> x.program(3, 3));
        small(asked, "image", () -> x.image(3, 5));
        small(asked, "label", () -> x.label(3, 1));
        small(asked, "before", () -> x.before(3, 100));
        small(asked, "line", () -> x.line(3, 100));
        small(asked, "feed", () -> x.feed(1, 2, 3, 4, 5));
        small(asked, "end", () -> x.end(0));
    }

    private static void counts(TimeMachine x, boolean asked) {
        c.about("running and going");
        x.boot(0);
        small(asked, "outside", () -> x.outside(3, 7, 0));
        small(asked, "run", () -> x.run(60000));
        c.same("all ticks", x.count(0), 60000);
        small(asked, "reason", () -> x.reason());
        for (int n = 0; n < 20; n++) {
            int to60000 = (n * 37 + 11) % 60 * 1000 + n;
            small(asked, "go", () -> x.go(to60000));
        }
        small(asked, "cut", () -> x.cut());
        small(asked, "run again", () -> x.run(3000));
        small(asked, "pack", () -> x.pack());
        small(asked, "logByte", () -> x.logByte(0));
        small(asked, "event", () -> x.event(0, 0));
        Checks.feed(x, Checks.bytes(2, 3, 5, 7, 0x1b));
        small(asked, "replay", () -> x.replay(0));
        small(asked, "run of a log", () -> x.run(60000));
        c.same("events of the log", x.count(3), 2);
        Checks.feed(x, Checks.bytes(2, 6));
        small(asked, "replay with a fault", () -> x.replay(0));
    }

    private static void breaks(TimeMachine x, boolean asked) {
        c.about("breaks");
        for (int n = 0; n < 20; n++) {
            int k = n % 8;
            Checks.feed(x, n % 5 == 4 ? "old(old(1))" : "changed(x8) && old(x8) == 7 || count == 20000 + " + n);
            small(asked, "watch", () -> x.watch(k));
            if (n % 3 == 2) {
                small(asked, "drop", () -> x.drop(k));
            }
        }
        Checks.feed(x, "old(x8) == 7");
        small(asked, "watch 0", () -> x.watch(0));
        small(asked, "value", () -> x.value(0));
        small(asked, "backTo", () -> x.backTo(0));
        small(asked, "run to a break", () -> x.run(60000));
        small(asked, "wrote", () -> x.wrote(0, 70));
    }

    private static void looks(TimeMachine x, boolean asked) {
        c.about("what is to be seen");
        small(asked, "register", () -> x.register(0, 8));
        small(asked, "process", () -> x.process(0, 5));
        small(asked, "peek", () -> x.peek(0, 3));
        small(asked, "text", () -> x.text(0, 0, 0));
        small(asked, "descriptor", () -> x.descriptor(0, 0, 0));
        small(asked, "held", () -> x.held(0, 0, 0));
        small(asked, "shown", () -> x.shown(0));
        for (int what = -1; what <= 17; what++) {
            int w = what;
            small(asked, "count", () -> x.count(w));
        }
    }

    private static void wrongOnes(TimeMachine x, boolean asked) {
        c.about("wrong inputs");
        small(asked, "assemble of 4", () -> x.assemble(4));
        small(asked, "boot of 4", () -> x.boot(4));
        small(asked, "replay of 4", () -> x.replay(4));
        small(asked, "outside of 5", () -> x.outside(5, 0, 0));
        small(asked, "run of -1", () -> x.run(-1));
        small(asked, "go to -1", () -> x.go(-1));
        small(asked, "watch of 8", () -> x.watch(8));
        small(asked, "value of 8", () -> x.value(8));
    }

    /** A loop of loads, stores and calls that does not end, with labels and data. */
    private static String ticking() {
        return "again: addi s0, s0, 1\n la s1, kept\n sw s0, 0(s1)\n li a7, 4\n ecall\n j again\n.data\nkept: .word 0\n";
    }

    /** As many labels and statements as make rows of thousands. */
    private static String wide() {
        StringBuilder out = new StringBuilder();
        for (int n = 0; n < 2500; n++) {
            out.append('n').append(n).append(":nop\n");
        }
        return out.toString();
    }

    private static void small(boolean asked, String what, Runnable call) {
        long before = THREADS.getThreadAllocatedBytes(Thread.currentThread().getId());
        try {
            call.run();
        } catch (IllegalArgumentException | IllegalStateException e) {
            // What is thrown is not asked here.
        }
        long made = THREADS.getThreadAllocatedBytes(Thread.currentThread().getId()) - before;
        if (asked) {
            c.same(what + " made " + made + " bytes, is that small", made <= SMALL ? 1 : 0, 1);
        }
    }

    /** How many fields and elements all have that can be reached from an object. */
    private static long kept(Object from) throws IllegalAccessException {
        Set<Object> seen = Collections.newSetFromMap(new IdentityHashMap<>());
        Deque<Object> open = new ArrayDeque<>();
        seen.add(from);
        open.add(from);
        long n = 0;
        while (!open.isEmpty()) {
            Object it = open.remove();
            n++;
            if (it.getClass().isArray()) {
                n += Array.getLength(it);
                if (it instanceof Object[]) {
                    for (Object part : (Object[]) it) {
                        reach(part, seen, open);
                    }
                }
            } else if (it instanceof CharSequence) {
                n += ((CharSequence) it).length();
            } else {
                for (Field field : it.getClass().getDeclaredFields()) {
                    if (!Modifier.isStatic(field.getModifiers())) {
                        n++;
                        field.setAccessible(true);
                        reach(field.getType().isPrimitive() ? null : field.get(it), seen, open);
                    }
                }
            }
        }
        return n;
    }

    private static void reach(Object it, Set<Object> seen, Deque<Object> open) {
        if (it != null && seen.add(it)) {
            open.add(it);
        }
    }
}
