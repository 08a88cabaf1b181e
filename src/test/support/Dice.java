/** Numbers that are the same each time: a linear congruence. */
final class Dice {
    private long state;

    Dice(long seed) {
        state = seed * 7919 + 13;
    }

    int below(int bound) {
        state = state * 6364136223846793005L + 1442695040888963407L;
        return (int) ((state >>> 33) % bound);
    }

    int between(int least, int most) {
        return least + below(most - least + 1);
    }

    /** Mostly within the range, now and then at its edges or beyond. */
    int around(int least, int most) {
        int turn = below(60);
        if (turn == 0) {
            return least - 1;
        }
        if (turn == 1) {
            return most + 1;
        }
        if (turn == 2) {
            return below(2) == 0 ? Integer.MIN_VALUE : Integer.MAX_VALUE;
        }
        return between(least, most);
    }
}
