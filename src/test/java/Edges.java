/** Arguments that are out of range: those next to it, and the farthest ones. */
final class Edges {
    static final int[] NO_PRODUCT = outside(0, 9);
    static final int[] NO_CUSTOMER = outside(0, 9);
    static final int[] NO_UNITS = outside(1, 20);
    static final int[] NO_CONDITION = outside(0, 3);
    static final int[] NO_PLACE = outside(0, 4);

    private Edges() {
    }

    static int[] outside(int first, int last) {
        return new int[] {first - 1, last + 1, Integer.MIN_VALUE, Integer.MAX_VALUE};
    }
}
