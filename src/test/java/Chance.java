/** Numbers that look like chance, but are the same ones each time. */
final class Chance {
    private static final int[] ODD = {Integer.MIN_VALUE, Integer.MAX_VALUE, -2, -1, 4, 8, 12, 60,
        99, 100, 127, 256};

    private long seed;

    Chance(long run) {
        seed = 7919L * run + 1;
    }

    int below(int bound) {
        seed = seed * 6364136223846793005L + 1442695040888963407L;
        return (int) Math.floorMod(seed >>> 33, (long) bound);
    }

    /** Mostly a number from least to greatest, now and then one far or just outside. */
    int from(int least, int greatest) {
        int chance = below(40);
        if (chance == 0) {
            return ODD[below(ODD.length)];
        }
        if (chance == 1) {
            return below(2) == 0 ? least - 1 : greatest + 1;
        }
        return least + below(greatest - least + 1);
    }

    String oneOf(String... texts) {
        return texts[below(texts.length)];
    }
}
