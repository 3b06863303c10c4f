/** Numbers that look thrown but are the same in every run. */
final class Numbers {
    private long state;

    Numbers(long seed) {
        state = seed * 2862933555777941757L + 3037000493L;
    }

    /** A number from least to most. */
    int from(int least, int most) {
        state = state * 6364136223846793005L + 1442695040888963407L;
        return least + (int) Long.remainderUnsigned(state >>> 24, (long) most - least + 1);
    }

    boolean onceIn(int many) {
        return from(1, many) == 1;
    }

    /** Mostly a number from least to most, often one of the two, and now and then one just outside. */
    int near(int least, int most) {
        int way = from(0, 59);
        if (way == 0) {
            return least - 1;
        }
        if (way == 1) {
            return most + 1;
        }
        if (way < 8) {
            return least;
        }
        if (way < 14) {
            return most;
        }
        return from(least, most);
    }
}
