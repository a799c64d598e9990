/** Numbers that look thrown, always the same ones from the same seed. */
final class Dice {
    private long state;

    Dice(long seed) {
        state = seed * 2654435761L + 12345;
        next(7);
    }

    /** 0 to below - 1. */
    int next(int below) {
        state = state * 6364136223846793005L + 1442695040888963407L;
        return (int) ((state >>> 33) % below);
    }

    int from(int low, int high) {
        return low + next(high - low + 1);
    }

    boolean once(int in) {
        return next(in) == 0;
    }

    String pick(String signs) {
        return String.valueOf(signs.charAt(next(signs.length())));
    }
}
