/** Numbers that look thrown, but are the same in every run. */
final class Dice {
    private long seed;

    Dice(long seed) {
        this.seed = seed;
    }

    /** From 0 to one less than the bound. */
    int below(int bound) {
        seed = seed * 6364136223846793005L + 1442695040888963407L;
        return (int) ((seed >>> 33) % bound);
    }

    int from(int least, int most) {
        return least + below(most - least + 1);
    }

    boolean oneOf(int many) {
        return below(many) == 0;
    }

    String pick(String... texts) {
        return texts[below(texts.length)];
    }
}
