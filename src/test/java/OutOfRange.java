/** Numbers next to the ends of a range, far from it, and such as would be inside if their upper bits were lost. */
final class OutOfRange {
    static final int[] TOO_SMALL = {-1, -2, -64, -256, -65536, Integer.MIN_VALUE + 1, Integer.MIN_VALUE};

    private OutOfRange() { }

    static int[] above(int last) {
        return new int[] {last + 1, last + 2, last + 64, last + 256, 65536, last + 65536, Integer.MAX_VALUE};
    }
}
