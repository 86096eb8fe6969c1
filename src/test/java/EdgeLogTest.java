/** The boundary cases that the document names of the log, of packing and reading it: promises 11, 30 to 32. */
public final class EdgeLogTest {
    private static final Checks c = new Checks();
    private static final String LOOP = "1: addi s0, s0, 1\nj 1b";
    private static final int SWITCH = 0;
    private static final int TYPED = 1;
    private static final int SIGNAL = 2;
    private static final int CLOCK = 3;
    private static final int RANDOM = 4;

    public static void main(String[] args) {
        packedVarints();
        packedKinds();
        firstDifference();
        sameDifference();
        packedRuns();
        likeInAll();
        typedAgain();
        typedLatest();
        clockAgain();
        largestLog();
        readKinds();
        readSame();
        readTyped();
        readClock();
        readRuns();
        faultOne();
        faultTwo();
        faultThree();
        faultFour();
        faultFive();
        faultSix();
        faultSeven();
        firstFault();
        replays();
        wrongReplays();
        sameRun();
        packs();
        logBytes();
        events();
        c.finish();
    }

    private static String hex(int... bytes) {
        StringBuilder out = new StringBuilder();
        for (int it : bytes) {
            out.append(String.format("%02x", it & 255));
        }
        return out.toString();
    }

    /** A varint by the document's words. */
    private static String varint(long v) {
        StringBuilder out = new StringBuilder();
        long rest = v;
        while (rest >= 128) {
            out.append(hex((int) (rest % 128) + 128));
            rest /= 128;
        }
        return out.append(hex((int) rest)).toString();
    }

    private static void packed(String what, TimeMachine x, String due) {
        c.same(what + ": bytes", x.pack(), due.length() / 2);
        c.same(what, Checks.log(x), due);
    }

    private static int[] bytes(String hex) {
        int[] row = new int[hex.length() / 2];
        for (int i = 0; i < row.length; i++) {
            row[i] = Integer.parseInt(hex.substring(2 * i, 2 * i + 2), 16);
        }
        return row;
    }

    /** A machine that has read a log, whose answer was due. */
    private static TimeMachine read(int due, String log) {
        TimeMachine x = c.booted(LOOP);
        c.same("replay of " + log, Checks.replay(x, 0, bytes(log)), due);
        return x;
    }

    /** The log has a fault at a place, and the machine stays. */
    private static void fault(int fault, int place, String log) {
        TimeMachine x = c.booted(LOOP);
        x.run(2);
        x.outside(CLOCK, 4, 0);
        c.same("replay of " + log, Checks.replay(x, 0, bytes(log)), -1 - (fault + 8 * place));
        c.same("NOW stays", x.count(0), 2);
        c.same("the recording stays", x.count(3) * 10 + x.event(0, 2), 14);
        c.same("nothing is scheduled", x.count(5), 0);
        c.same("the tape is used up", x.count(15), 0);
    }

    private static void packedVarints() {
        c.sentence("the log", "seven bits in each byte, the lowest first, and 128 more in each but the last, as few"
                + " bytes as can be.");
        long[] numbers = {0, 1, 127, 128, 129, 255, 256, 16383, 16384, 2097151, 2097152, 268435455, 268435456,
            (1L << 35) - 1, 1L << 35,
            (1L << 40) - 1, 1L << 40};
        int[] lengths = {1, 1, 1, 2, 2, 2, 2, 2, 3, 3, 4, 4, 5, 5, 6, 6, 6};
        for (int i = 0; i < numbers.length; i++) {
            TimeMachine x = c.booted(LOOP);
            x.outside(CLOCK, numbers[i], 0);
            packed("CLOCK " + numbers[i], x, "010b" + varint(numbers[i]));
            c.same("bytes of " + numbers[i], x.pack(), 2 + lengths[i]);
        }
        for (int at : new int[] {1, 127, 128, 16383, 16384, 59999, 60000}) {
            TimeMachine x = c.booted(LOOP);
            x.run(at);
            x.outside(CLOCK, 1, 0);
            packed("a difference of " + at, x, "0103" + varint(at) + "01");
        }
        TimeMachine x = read(128, "8001" + "0b01" + "057f");
        packed("128 events", x, "8001" + "0b01" + "057f");
    }

    private static void packedKinds() {
        c.sentence("the log", "An entry begins with a HEAD: bits 0 .. 2 a kind, or 5 a RUN; bit 3 (8) SAME");
        TimeMachine x = c.booted("li a7, 1\n1: ecall\nj 1b");
        x.run(100);
        x.outside(SWITCH, 15, 0);
        x.outside(SWITCH, 0, 0);
        x.outside(SIGNAL, 15, 15);
        x.outside(SIGNAL, 0, 1);
        x.outside(RANDOM, 0, 0);
        x.outside(RANDOM, 0xffffffffL, 0);
        x.outside(TYPED, 0, 1);
        x.outside(TYPED, -1, 8);
        packed("each kind", x, "08" + "f064" + "0000" + "fa0f" + "0a01" + "0c00000000" + "0cffffffff" + "1900"
                + "89ffffffffffffffff");
    }

    private static void firstDifference() {
        c.sentence("the log", "a DIFFERENCE (0 .. 2^40) to the event before (the first one to 0)");
        TimeMachine x = c.booted(LOOP);
        x.run(5);
        x.outside(CLOCK, 9, 0);
        packed("the first one to 0", x, "01" + "0305" + "09");
        x.run(2);
        x.outside(CLOCK, 9, 0);
        packed("to the event before", x, "02" + "0305" + "09" + "1302");
        TimeMachine y = c.booted(LOOP);
        y.outside(CLOCK, 9, 0);
        packed("0, which is SAME for the first", y, "01" + "0b09");
    }

    private static void sameDifference() {
        c.sentence("the log", "the difference is that of the event before (0 for the first event)");
        TimeMachine x = c.booted(LOOP);
        x.run(3);
        x.outside(CLOCK, 1, 0);
        x.run(3);
        x.outside(CLOCK, 2, 0);
        x.outside(CLOCK, 3, 0);
        x.outside(CLOCK, 4, 0);
        x.run(3);
        x.outside(CLOCK, 5, 0);
        c.sentence("packing", "any other one is an entry, SAME if it can be");
        packed("SAME if it can be", x, "05" + "030301" + "0b02" + "030003" + "0b04" + "030305");
    }

    private static void packedRuns() {
        c.sentence("packing", "those that are like the event before in all (kind, difference, what they bring) are"
                + " one RUN, as many as there are (X for n up to 15, else the varint)");
        for (int n : new int[] {1, 2, 14, 15, 16, 17, 100, 127, 128, 2047}) {
            String run = n <= 15 ? hex(5 | n << 4) : "05" + varint(n);
            TimeMachine x = read(n + 1, varint(n + 1) + "0b07" + "05" + varint(n));
            packed("a RUN of " + n, x, varint(n + 1) + "0b07" + run);
        }
        TimeMachine x = c.booted(LOOP);
        for (int i = 0; i < 4; i++) {
            x.run(2);
            x.outside(SIGNAL, 0, 16);
            x.outside(CLOCK, 0, 0);
        }
        packed("with a difference", x, "04" + "030200" + "35");
        x.outside(CLOCK, 0, 0);
        x.outside(CLOCK, 0, 0);
        packed("one RUN behind another", x, "06" + "030200" + "35" + "1300" + "15");
    }

    private static void likeInAll() {
        c.sentence("packing", "(kind, difference, what they bring)");
        TimeMachine x = c.booted(LOOP);
        x.outside(SIGNAL, 0, 1);
        x.outside(SIGNAL, 0, 2);
        x.outside(SIGNAL, 0, 2);
        x.outside(TYPED, 2, 1);
        x.outside(TYPED, 2, 2);
        x.outside(TYPED, 2, 2);
        x.outside(SWITCH, 0, 0);
        x.outside(CLOCK, 0, 0);
        x.outside(RANDOM, 0, 0);
        packed("others", x, "09" + "0a01" + "0a02" + "15" + "1902" + "290002" + "15" + "08" + "0b00" + "0c00000000");
        TimeMachine y = c.booted(LOOP);
        y.outside(CLOCK, 5, 0);
        y.run(1);
        y.outside(CLOCK, 5, 0);
        y.run(2);
        y.outside(CLOCK, 5, 0);
        packed("other differences", y, "03" + "0b05" + "1301" + "1302");
    }

    private static void typedAgain() {
        c.sentence("packing", "TYPED with k, if one of the 20 latest TYPED events before has the same bytes, two or"
                + " more (the least such k)");
        TimeMachine x = c.booted(LOOP);
        x.outside(TYPED, 0x4142, 2);
        x.outside(TYPED, 0x43, 1);
        x.outside(TYPED, 0x4142, 2);
        x.outside(CLOCK, 1, 0);
        x.outside(TYPED, 0x4142, 2);
        x.outside(TYPED, 0x43, 1);
        x.outside(TYPED, 0x004142, 3);
        x.outside(TYPED, 0x4142, 2);
        packed("k", x, "08" + "294142" + "1943" + "0902" + "0b01" + "0901" + "1943" + "39004142" + "0903");
        TimeMachine y = c.booted(LOOP);
        y.outside(TYPED, 0x4142434445464748L, 8);
        y.run(1);
        y.outside(TYPED, 0x4142434445464748L, 8);
        packed("eight bytes", y, "02" + "894142434445464748" + "010101");
    }

    private static void typedLatest() {
        c.sentence("packing", "if one of the 20 latest TYPED events before has the same bytes");
        for (int between : new int[] {18, 19, 20}) {
            TimeMachine x = c.booted(LOOP);
            x.outside(TYPED, 0x4142, 2);
            StringBuilder due = new StringBuilder(hex(between + 2) + "294142");
            for (int i = 0; i < between; i++) {
                x.outside(TYPED, i, 1);
                due.append(hex(0x19, i));
            }
            x.outside(TYPED, 0x4142, 2);
            due.append(between < 20 ? "09" + hex(between + 1) : "294142");
            packed(between + " between", x, due.toString());
        }
    }

    private static void clockAgain() {
        c.sentence("packing", "CLOCK with X 1, if it can be.");
        TimeMachine x = c.booted(LOOP);
        x.outside(CLOCK, 5, 0);
        x.outside(SWITCH, 0, 0);
        x.outside(CLOCK, 5, 0);
        x.outside(CLOCK, 6, 0);
        x.outside(SWITCH, 0, 0);
        x.outside(CLOCK, 5, 0);
        packed("as far as the CLOCK event before", x, "06" + "0b05" + "08" + "1b" + "0b06" + "08" + "0b05");
        TimeMachine y = c.booted(LOOP);
        y.outside(CLOCK, 0, 0);
        packed("not the first", y, "01" + "0b00");
    }

    private static void largestLog() {
        c.sentence("the log", "A LOG, at most 32768 bytes: a varint of how many events there are; then ENTRIES.");
        // The longest entries that can be taken so often: CLOCKs, each by another number, with differences in turn.
        StringBuilder log = new StringBuilder("8010");
        for (int i = 0; i < 2048; i++) {
            log.append("03").append(varint(i % 2 + 1)).append(varint((1L << 40) - i));
        }
        TimeMachine x = read(2048, log.toString());
        x.run(4000);
        c.same("all came", x.count(3), 2048);
        packed("the same log", x, log.toString());
    }

    private static void readKinds() {
        c.sentence("the log", "SWITCH: nothing, X is the process.");
        TimeMachine x = read(4, "04" + "08" + "0a1f" + "0c80000000" + "19ff");
        c.same("SIGNAL 31 can't be taken", x.run(1), 0);
        c.same("reason", x.reason(), 5);
        x = read(5, "05" + "08" + "0a0f" + "0cffffffff" + "19ff" + "898000000000000001");
        long[][] due = {{0, 0, 0, 0}, {2, 0, 0, 15}, {4, 0, 0xffffffffL, 0}, {1, 0, 255, 1},
            {1, 0, 0x8000000000000001L, 8}};
        for (int k = 0; k < due.length; k++) {
            for (int what = 0; what < 4; what++) {
                c.same("event(" + k + ", " + what + ")", x.event(k, what), due[k][what]);
            }
        }
        c.sentence("the log", "RANDOM: X is 0; four bytes, the highest first.");
        x = read(3, "03" + "0c01020304" + "0c00000000" + "0cfffffffe");
        long[] words = {0x01020304L, 0, 0xfffffffeL};
        for (int k = 0; k < words.length; k++) {
            c.same("word " + k, x.event(k, 2), words[k]);
        }
        c.sentence("the log", "SIGNAL: a byte, the number; X is the process.");
        for (int p = 0; p < 16; p++) {
            TimeMachine y = read(2, "02" + "0b01" + hex(0x0a | p << 4) + "0f");
            c.same("SIGNAL to " + p, y.count(3), p == 0 ? 2 : 1);
            TimeMachine z = read(2, "02" + "0b01" + hex(0x08 | p << 4));
            c.same("SWITCH to " + p, z.count(3), p == 0 ? 2 : 1);
        }
    }

    private static void readSame() {
        c.sentence("the log", "Behind the head stands, unless it is SAME, a varint of the difference");
        TimeMachine x = read(4, "04" + "0b01" + "030302" + "0b03" + "030004");
        x.run(20);
        int[] at = {0, 3, 6, 6};
        for (int k = 0; k < at.length; k++) {
            c.same("count of event " + k, x.event(k, 1), at[k]);
            c.same("brought by event " + k, x.event(k, 2), k + 1);
        }
        x = read(1, "01" + "0380808080802001");
        c.same("a difference of 2^40", x.count(5), 1);
        x = read(2, "02" + "0380808080802001" + "0b01");
        c.same("and again", x.count(5), 2);
    }

    private static void readTyped() {
        c.sentence("the log", "TYPED: X (1 .. 8) bytes, as they were typed; with X 0 a varint k, 1 or more: the same"
                + " bytes as the k-th TYPED event before (1 the latest one).");
        TimeMachine x = read(5, "05" + "1961" + "296263" + "0b01" + "0901" + "0903");
        c.same("typed", Checks.held(x, 0, 0), "abcbca");
        // The 129th TYPED event before: a k of two bytes, more than packing would look back.
        StringBuilder log = new StringBuilder("8201" + "297879");
        for (int i = 0; i < 128; i++) {
            log.append("19").append(hex(0x30 + i % 10));
        }
        log.append("098101");
        x = read(130, log.toString());
        c.same("typed", x.count(9), 132);
        c.same("the last", x.held(0, 0, 131), 'y');
    }

    private static void readClock() {
        c.sentence("the log", "CLOCK: with X 0 a varint, how far; with X 1 nothing: as far as the CLOCK event before.");
        TimeMachine x = read(4, "04" + "0b808080808020" + "1b" + "08" + "1b");
        c.same("the clock", x.count(6), 3L << 40);
        x = read(2, "02" + "0b00" + "1b");
        c.same("the clock", x.count(6), 0);
    }

    private static void readRuns() {
        c.sentence("the log", "RUN: bit 3 is 0, and no difference follows; the event before comes n times more, with"
                + " its difference and all that it brings: n is X, or with X 0 a varint.");
        TimeMachine x = read(16, "10" + "030207" + "f5");
        x.run(40);
        for (int k = 0; k < 16; k++) {
            c.same("count of event " + k, x.event(k, 1), 2 * k + 2);
            c.same("brought by event " + k, x.event(k, 2), 7);
        }
        x = read(4, "04" + "0b07" + "15" + "25");
        c.same("a RUN behind a RUN", x.count(6), 28);
        x = read(2, "02" + "0b07" + "0501");
        c.same("a varint that X could say", x.count(6), 14);
        x = read(3, "03" + "296162" + "25");
        c.same("TYPED", Checks.held(x, 0, 0), "ababab");
        x = read(4, "04" + "296162" + "15" + "1978" + "0903");
        c.same("those of a RUN count", Checks.held(x, 0, 0), "ababxab");
        x = read(2048, "8010" + "0b01" + "05ff0f");
        c.same("2048 in all", x.count(6), 2048);
    }

    private static void faultOne() {
        c.sentence("reading", "1 a head that is not as said (a kind 6 or 7; X: TYPED above 8, CLOCK above 1, RANDOM"
                + " not 0; RUN with bit 3), at it.");
        for (int head = 0; head < 256; head++) {
            int kind = head & 7;
            int x = head >> 4;
            boolean same = (head & 8) != 0;
            boolean wrong = kind > 5 || kind == 1 && x > 8 || kind == 3 && x > 1 || kind == 4 && x != 0 || kind == 5
                    && same;
            if (wrong) {
                fault(1, 1, "01" + hex(head));
                fault(1, 3, "02" + "0b05" + hex(head) + "0000");
            }
        }
    }

    private static void faultTwo() {
        c.sentence("reading", "2 the end, where a byte must be (at the place behind the last).");
        fault(2, 0, "");
        fault(2, 1, "01");
        fault(2, 1, "80");
        fault(2, 2, "8080");
        fault(2, 6, "808080808080");
        fault(2, 2, "0100");
        fault(2, 3, "010080");
        fault(2, 3, "020b05");
        fault(2, 2, "0109");
        fault(2, 2, "0119");
        fault(2, 9, "018901020304050607");
        fault(2, 2, "010a");
        fault(2, 2, "010b");
        fault(2, 3, "010b80");
        fault(2, 2, "010c");
        fault(2, 5, "010c010203");
        fault(2, 4, "030b0505");
        fault(2, 5, "030b050580");
    }

    private static void faultThree() {
        c.sentence("reading", "3 a varint that is longer than it must be, or above 2^40, at its last byte (at its"
                + " seventh, when this is no last one).");
        fault(3, 1, "8000");
        fault(3, 2, "808000");
        fault(3, 5, "808080808000");
        fault(3, 6, "80808080808000");
        fault(3, 6, "80808080808001");
        fault(3, 6, "80808080808080");
        fault(3, 6, "8080808080808000");
        fault(3, 5, "818080808020");
        fault(3, 5, "808080808021");
        fault(3, 5, "ffffffffff7f");
        fault(6, 0, "808080808020");
        for (String before : new String[] {"0100", "010b", "0109", "020b0505"}) {
            int at = before.length() / 2;
            fault(3, at + 1, before + "8000");
            fault(3, at + 1, before + "8100");
            fault(3, at + 5, before + "818080808020");
            fault(3, at + 6, before + "80808080808080");
            fault(3, at + 6, before + "80808080808001");
        }
        read(1, "01" + "0b808080808020");
        read(1, "01" + "0b7f");
        read(1, "01" + "0b8001");
    }

    private static void faultFour() {
        c.sentence("reading", "4 there is no event before that is meant (RUN as the first entry; k above how many"
                + " TYPED ones there are; CLOCK with X 1 without one), at the head; asked when the difference, and k,"
                + " are read.");
        fault(4, 1, "0115");
        fault(4, 1, "0105");
        fault(4, 1, "01050000");
        fault(4, 1, "02f5");
        fault(4, 1, "010901");
        fault(4, 1, "01010501");
        fault(4, 3, "020b050901");
        fault(4, 3, "0219610902");
        fault(4, 5, "0319611962" + "0903");
        fault(4, 1, "011b");
        fault(4, 1, "011305");
        fault(4, 2, "020813" + "00");
        fault(4, 1, "01098080808008");
        // What is read before it has its faults first.
        fault(2, 2, "0113");
        fault(3, 3, "01138000");
        fault(2, 2, "0109");
        fault(3, 3, "01098000");
        fault(5, 2, "010900");
        read(2, "02" + "1961" + "0901");
        read(3, "03" + "1961" + "1962" + "0902");
    }

    private static void faultFive() {
        c.sentence("reading", "5 a number of a SIGNAL that is none, a varint k or n that is 0, at its (first) byte.");
        for (int number = 0; number < 256; number++) {
            if (number < 1 || number > 31) {
                fault(5, 2, "010a" + hex(number));
            } else if (number > 15) {
                read(1, "010a" + hex(number));
            }
        }
        fault(5, 3, "010205" + "00");
        fault(5, 4, "0219610900");
        fault(5, 4, "030b0505" + "00");
        fault(5, 4, "030b050500" + "06");
    }

    private static void faultSix() {
        c.sentence("reading", "6 more events than said at the beginning, at the head that brings the first one too"
                + " many (for a RUN: when its n is read)");
        fault(6, 3, "020b0525");
        fault(6, 3, "020b0505" + "02");
        fault(6, 3, "020b0505" + "808080808020");
        fault(6, 4, "030b051525");
        fault(6, 4, "80100b0505" + "8010");
        fault(3, 5, "020b05058000");
        read(3, "03" + "0b05" + "25");
        c.sentence("reading", "also more than 2048 said, at the log's first byte.");
        fault(6, 0, "8110");
        fault(6, 0, "811006");
        fault(6, 0, "ffff7f");
        fault(2, 2, "8010");
        fault(3, 2, "819000");
    }

    private static void faultSeven() {
        c.sentence("reading", "7 a byte behind the last event, at it; it is asked for as soon as all events are"
                + " there.");
        fault(7, 1, "0000");
        fault(7, 1, "0006");
        fault(7, 3, "010b0500");
        fault(7, 3, "010b0515");
        fault(7, 3, "010b050b05");
        fault(7, 3, "010b0506");
        fault(7, 4, "020b051515");
        fault(7, 4, "010b8005" + "060708");
        read(0, "00");
    }

    private static void firstFault() {
        c.sentence("reading", "the first fault, from its first byte to its last, with the place of the byte (from 0"
                + " on)");
        fault(1, 3, "030b0506" + "07");
        fault(5, 4, "030b050a0006");
        fault(3, 5, "030b0303800006");
        fault(1, 1, "0196");
    }

    private static void replays() {
        c.sentence("promise 11", "without a fault program p is booted, and its events are scheduled (those of count 0"
                + " taken at once): how many they are; else -1 - (the fault + 8 * its place), and the machine stays.");
        TimeMachine x = new TimeMachine();
        Checks.assemble(x, 0, LOOP);
        Checks.assemble(x, 3, "li s1, 5\nj 0");
        c.same("a fault", Checks.replay(x, 3, 6), -1 - (2 + 8));
        c.same("nothing is booted", x.count(11), 0);
        c.same("replay", Checks.replay(x, 3, 3, 0x0b, 1, 0x13, 0, 0x13, 2), 3);
        c.same("of count 0", x.count(3), 2);
        c.same("scheduled", x.count(5), 1);
        c.same("the clock", x.count(6), 2);
        x.run(1);
        c.same("program 3", x.register(0, 9), 5);
        c.same("a log of no events", Checks.replay(x, 0, 0), 0);
        c.same("booted anew", x.count(0) + x.count(1) + x.count(3) + x.count(5) + x.count(6), 0);
        c.same("those that can't be taken count, too", Checks.replay(x, 0, 3, 0x38, 0x0b, 1, 0x13, 2), 3);
        c.same("the tape", x.count(15), 0);
    }

    private static void wrongReplays() {
        c.sentence("promise 11", "Throws as boot.");
        TimeMachine x = new TimeMachine();
        Checks.assemble(x, 1, LOOP);
        Checks.feed(x, Checks.bytes(0));
        for (int p : new int[] {-1, 4, Integer.MIN_VALUE, Integer.MAX_VALUE}) {
            c.argument("replay(" + p + ")", () -> x.replay(p));
        }
        for (int p : new int[] {0, 2, 3}) {
            c.state("replay(" + p + ")", () -> x.replay(p));
        }
        c.same("the tape stays", x.count(15), 1);
        c.same("replay(1)", x.replay(1), 0);
        Checks.feed(x, Checks.bytes(6, 6));
        c.state("ahead of a fault of the log", () -> x.replay(0));
        c.same("the tape stays", x.count(15), 2);
    }

    private static void sameRun() {
        c.sentence("what it is", "the recording, packed into a log, gives the same run again.");
        TimeMachine x = c.booted("li a7, 1\necall\n1: li a7, 21\necall\nadd s0, s0, a0\nli a7, 6\nli a0, 0\n"
                + "li a1, 61440\nli a2, 3\necall\nj 1b");
        for (int i = 0; i < 60; i++) {
            x.run(i % 7);
            x.outside(i % 5, i % 5 == 0 || i % 5 == 2 ? i % 2 : i, i % 5 == 2 ? 16 + i % 9 : 1 + i % 4);
        }
        int end = (int) x.count(1);
        TimeMachine y = c.booted("li a7, 1\necall\n1: li a7, 21\necall\nadd s0, s0, a0\nli a7, 6\nli a0, 0\n"
                + "li a1, 61440\nli a2, 3\necall\nj 1b");
        Checks.feed(y, Checks.logOf(x));
        c.same("events", y.replay(0), x.count(3));
        c.same("ticks", y.run(end), end);
        c.same("the same", TimeSeen.of(y).equals(TimeSeen.of(x)) ? 1 : 0, 1);
        c.same("nothing is left", y.count(5), 0);
    }

    private static void packs() {
        c.sentence("promise 30", "Packs the events of the recording (all, up to END; there are none when nothing is"
                + " booted) to a log: how many bytes.");
        TimeMachine x = new TimeMachine();
        c.same("nothing booted", x.pack(), 1);
        c.same("its byte", Checks.log(x), "00");
        Checks.assemble(x, 0, LOOP);
        x.boot(0);
        packed("nothing came", x, "00");
        x.outside(CLOCK, 5, 0);
        x.run(3);
        x.outside(CLOCK, 6, 0);
        x.go(0);
        packed("all, up to END", x, "02" + "0b05" + "030306");
        Checks.replay(x, 0, bytes("03" + "0b05" + "030306" + "030307"));
        x.run(4);
        packed("what is scheduled is not of the recording", x, "02" + "0b05" + "030306");
        x.go(2);
        x.cut();
        packed("behind a cut", x, "01" + "0b05");
    }

    private static void logBytes() {
        c.sentence("promise 31", "Byte k of the latest log that was packed; -1 when there is none.");
        TimeMachine x = new TimeMachine();
        for (int k : new int[] {-1, 0, 1, Integer.MIN_VALUE, Integer.MAX_VALUE}) {
            c.same("before any, logByte(" + k + ")", x.logByte(k), -1);
        }
        Checks.assemble(x, 0, LOOP);
        x.boot(0);
        x.outside(CLOCK, 128, 0);
        c.same("not packed yet", x.logByte(0), -1);
        x.pack();
        int[] due = {1, 0x0b, 0x80, 1};
        for (int k = -1; k <= due.length; k++) {
            c.same("logByte(" + k + ")", x.logByte(k), k >= 0 && k < due.length ? due[k] : -1);
        }
        c.same("far", x.logByte(Integer.MIN_VALUE), -1);
        c.same("far", x.logByte(Integer.MAX_VALUE), -1);
        x.outside(CLOCK, 1, 0);
        c.same("the latest that was packed", x.logByte(0), 1);
        x.boot(0);
        c.same("it stays", x.logByte(3), 1);
        x.pack();
        c.same("a shorter one", x.logByte(0), 0);
        c.same("nothing behind it", x.logByte(1), -1);
    }

    private static void events() {
        c.sentence("promise 32", "(TYPED: a without other bits; RANDOM 0 .. 2^32 - 1; b 0 where it isn't named); -1"
                + " when there is none, or for others.");
        TimeMachine x = new TimeMachine();
        c.same("nothing booted", x.event(0, 0), -1);
        Checks.assemble(x, 0, LOOP);
        x.boot(0);
        c.same("none yet", x.event(0, 0), -1);
        x.outside(TYPED, -1, 1);
        x.outside(TYPED, -1, 7);
        x.outside(TYPED, -1, 8);
        x.outside(RANDOM, -1, 5);
        x.outside(RANDOM, 1L << 32, 5);
        x.outside(SWITCH, 0, 5);
        x.outside(CLOCK, 1L << 40, 5);
        x.outside(SIGNAL, 0, 15);
        long[][] due = {{1, 0, 255, 1}, {1, 0, (1L << 56) - 1, 7}, {1, 0, -1, 8}, {4, 0, 0xffffffffL, 0}, {4, 0, 0, 0},
            {0, 0, 0, 0},
            {3, 0, 1L << 40, 0}, {2, 0, 0, 15}};
        for (int k = 0; k < due.length; k++) {
            for (int what = 0; what < 4; what++) {
                c.same("event(" + k + ", " + what + ")", x.event(k, what), due[k][what]);
            }
            for (int what : new int[] {-1, 4, Integer.MIN_VALUE, Integer.MAX_VALUE}) {
                c.same("event(" + k + ", " + what + ")", x.event(k, what), -1);
            }
        }
        for (int k : new int[] {-1, due.length, 2048, Integer.MIN_VALUE, Integer.MAX_VALUE}) {
            c.same("event(" + k + ", 0)", x.event(k, 0), -1);
        }
        Checks.replay(x, 0, 2, 0x0b, 5, 0x13, 2);
        c.same("one that came", x.event(0, 2), 5);
        c.same("one that is scheduled", x.event(1, 0), -1);
    }
}
