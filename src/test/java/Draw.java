/** Numbers drawn from a fixed sequence, so that a test that uses them is the same each time. */
final class Draw {

    private long sequence;

    Draw(long start) {
        sequence = start;
    }

    /** Answers one of 0 to bound - 1. */
    int below(int bound) {
        sequence = sequence * 6364136223846793005L + 1442695040888963407L;
        return (int) ((sequence >>> 33) % bound);
    }
}
