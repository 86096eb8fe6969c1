import java.io.ByteArrayOutputStream;

/** Conditions and logs by chance, some of them with faults. */
final class ModelInputs {
    private static final String[] WORDS = {"x1", "x8", "x31", "x32", "x01", "pc", "pid", "count", "byte", "half", "old",
        "changed", "[", "]", "(", ")", "(", ")", "||", "&&", "==", "!=", "<", "<=", ">", ">=", "|", "^", "&", "<<", ">>",
        "+", "-", "*", "/", "%", "!", "~", "1", "0", "1024", "0x40", "foo", "=", " ", "65532", "12a", "0xG", "4294967296"};
    private static final String[] SIGNS = "|| && == != < <= > >= | ^ & << >> + - * / %".split(" ");

    private final Chance chance;

    ModelInputs(Chance chance) {
        this.chance = chance;
    }

    // ---- conditions

    String condition() {
        if (chance.once(4)) {
            return ModelTexts.soup(chance, WORDS, chance.once(3) ? 45 : 14);
        }
        if (chance.once(12)) {
            return chance.once(2) ? deep() : many();
        }
        String it = part(chance.below(5));
        it = chance.once(6) ? it : "count % " + chance.from(40, 440) + " == 3 && (" + it + ")";
        return chance.once(40) ? it + chance.of(" ", ")", "\u0001", " ".repeat(40)) : it;
    }

    private String part(int deep) {
        if (deep == 0) {
            return chance.of("x" + chance.below(32), "pc", "pid", "count", "" + chance.below(100), "1024", "0x404", "x10", "x17");
        }
        switch (chance.below(9)) {
            case 0:
                return "(" + part(deep - 1) + ")";
            case 1:
                return chance.of("!", "-", "~") + part(deep - 1);
            case 2:
                String address = chance.of("1024", "x8", "x2 - 4", "x21", "4 * " + part(deep - 1), "1026");
                return chance.of("[", "byte[", "half [ ") + address + "]";
            case 3:
                return chance.of("old", "changed") + "(" + part(chance.below(deep)) + ")";
            default:
                return part(deep - 1) + chance.of("", " ") + chance.of(SIGNS) + chance.of(" ", "") + part(deep - 1);
        }
    }

    /** About as deep as may be. */
    private String deep() {
        StringBuilder out = new StringBuilder();
        int open = chance.from(7, 9);
        for (int i = 0; i < open; i++) {
            out.append(chance.of("(", "(", "(", "!(", "-("));
        }
        return out.append(1).append(")".repeat(chance.once(8) ? open - 1 : open)).toString();
    }

    /** About as many parts as may be. */
    private String many() {
        StringBuilder out = new StringBuilder();
        int n = chance.from(36, 42);
        for (int i = 0; i < n; i++) {
            out.append(i % 2 == 0 ? chance.of("1", "x1", "pc") : chance.of("+", "*", "<", "||"));
        }
        return out.append(chance.of("", "1", "y", "+1")).toString();
    }

    // ---- logs

    private static void varint(ByteArrayOutputStream out, long v) {
        long rest = v;
        while (rest > 127) {
            out.write((int) (rest & 127 | 128));
            rest >>= 7;
        }
        out.write((int) rest);
    }

    byte[] log() {
        ByteArrayOutputStream out = new ByteArrayOutputStream();
        int n = chance.below(12);
        varint(out, n);
        for (int i = 0; i < n; i++) {
            entry(out);
        }
        if (chance.once(6)) {
            out.write(chance.below(256));
        }
        return out.toByteArray();
    }

    private void entry(ByteArrayOutputStream out) {
        int kind = chance.below(6);
        boolean same = chance.once(3) && kind != 5;
        int x = kind == 4 ? 0 : chance.below(kind == 1 ? 4 : kind == 3 ? 2 : 3);
        out.write(kind | (same ? 8 : 0) | x << 4);
        if (!same && kind != 5) {
            varint(out, chance.once(8) ? chance.anyLong() >>> chance.from(23, 62) : chance.below(30));
        }
        if (x == 0 && (kind == 1 || kind == 5)) {
            varint(out, chance.below(4));
        } else if (x == 0 && kind == 3) {
            varint(out, chance.once(5) ? chance.anyLong() >>> chance.from(20, 59) : chance.below(300));
        } else if (kind == 2) {
            out.write(chance.below(chance.once(4) ? 34 : 16));
        } else {
            for (int b = kind == 1 ? x : kind == 4 ? 4 : 0; b > 0; b--) {
                out.write(chance.below(chance.of(5, 125)));
            }
        }
    }
}
