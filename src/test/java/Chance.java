import java.util.Random;

/** Choices by chance, the same for the same seed. */
final class Chance {
    private final Random random;

    Chance(long seed) {
        random = new Random(seed);
    }

    int below(int n) {
        return random.nextInt(n);
    }

    int from(int least, int most) {
        return least + random.nextInt(most - least + 1);
    }

    int any() {
        return random.nextInt();
    }

    long anyLong() {
        return random.nextLong();
    }

    /** True once in n times. */
    boolean once(int n) {
        return random.nextInt(n) == 0;
    }

    /** Mostly -1 .. most; sometimes any number. */
    int about(int most) {
        return once(12) ? any() : from(-1, most);
    }

    String of(String... all) {
        return all[random.nextInt(all.length)];
    }

    int of(int... all) {
        return all[random.nextInt(all.length)];
    }
}
