import java.util.ArrayList;
import java.util.List;

/** Every two signs between three numbers, with what is due by their ranks: to see which sign is done first. */
final class Ranks {
    private static final long[][] NUMBERS = {{7, 3, 2}, {1, 1, 1}, {100, 7, 3}, {6, 1, 4}, {2, 5, 0}, {0, 1, 3},
        {5, 4, 1}, {9, 2, 2}, {3, 0, 1}, {1, 2, 3}};
    private final String[] signs;
    private final int[] rank;
    private final boolean longs;
    final List<String> texts = new ArrayList<>();
    final List<Long> due = new ArrayList<>();

    /** The signs from those that are done first to the last, those of one sort together; of longs, or of ints. */
    Ranks(boolean longs, String... sorts) {
        this.longs = longs;
        List<String> all = new ArrayList<>();
        List<Integer> ranks = new ArrayList<>();
        for (int i = 0; i < sorts.length; i++) {
            for (String sign : sorts[i].split(" ")) {
                all.add(sign);
                ranks.add(sorts.length - i);
            }
        }
        signs = all.toArray(new String[0]);
        rank = ranks.stream().mapToInt(Integer::intValue).toArray();
        for (int i = 0; i < signs.length; i++) {
            for (int j = 0; j < signs.length; j++) {
                addPair(i, j);
            }
        }
    }

    private void addPair(int i, int j) {
        for (long[] n : NUMBERS) {
            boolean left = rank[i] >= rank[j];
            if (!divides(left ? signs[i] : signs[j], left ? n[1] : n[2])) {
                continue;
            }
            long inner = left ? work(signs[i], n[0], n[1]) : work(signs[j], n[1], n[2]);
            if (divides(left ? signs[j] : signs[i], left ? n[2] : inner)) {
                texts.add(n[0] + signs[i] + n[1] + signs[j] + n[2]);
                due.add(left ? work(signs[j], inner, n[2]) : work(signs[i], n[0], inner));
            }
        }
    }

    private static boolean divides(String sign, long by) {
        return by != 0 || !sign.equals("/") && !sign.equals("%");
    }

    private long work(String sign, long a, long b) {
        long v = worked(sign, a, b);
        return longs ? v : (int) v;
    }

    private long worked(String sign, long a, long b) {
        switch (sign) {
            case "*":
                return a * b;
            case "/":
                return a / b;
            case "%":
                return a % b;
            case "+":
                return a + b;
            case "-":
                return a - b;
            case "<<":
                return longs ? a << b : (int) a << b;
            case ">>":
                return longs ? a >> b : (int) a >> b;
            case "&":
                return a & b;
            case "^":
                return a ^ b;
            case "|":
                return a | b;
            default:
                return isTrue(sign, a, b) ? 1 : 0;
        }
    }

    private static boolean isTrue(String sign, long a, long b) {
        switch (sign) {
            case "==":
                return a == b;
            case "!=":
                return a != b;
            case "<":
                return a < b;
            case "<=":
                return a <= b;
            case ">":
                return a > b;
            case ">=":
                return a >= b;
            case "&&":
                return a != 0 && b != 0;
            default:
                return a != 0 || b != 0;
        }
    }
}
