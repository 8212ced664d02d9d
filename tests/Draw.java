/** Numbers that look drawn by lot, and are the same each time. */
final class Draw {
    private long state;

    Draw(long seed) {
        state = seed * 2862933555777941757L + 3037000493L;
    }

    int below(int bound) {
        state = state * 6364136223846793005L + 1442695040888963407L;
        return (int) ((state >>> 33) % bound);
    }

    char of(String letters) {
        return letters.charAt(below(letters.length()));
    }
}
