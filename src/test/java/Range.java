/** Numbers on both sides of a range's two ends. */
final class Range {
    private static final int MIN = Integer.MIN_VALUE, MAX = Integer.MAX_VALUE;

    private Range() {
    }

    static int[] allowed(int least, int most) {
        return new int[] {least, most};
    }

    /** The next ones outside, one below 0, the ends of int, and one that is least again if its upper bits are lost. */
    static int[] refused(int least, int most) {
        return new int[] {least - 1, -1, most + 1, least + (1 << 24), MIN, MIN + 1, MAX - 1, MAX};
    }
}
