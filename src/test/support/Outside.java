/** Values outside a range: the first on each side, and some far away. */
final class Outside {
    private Outside() { }

    /** Those a multiple of 256 or 65536 away would seem to be within if they were cut to fewer bits. */
    static int[] of(int least, int greatest) {
        return new int[] {
            least - 1, least - 2, least - 10, least - 256, least - 65536, -1000000,
            Integer.MIN_VALUE + 1, Integer.MIN_VALUE,
            greatest + 1, greatest + 2, greatest + 10, greatest + 256, greatest + 65536, greatest + 1000000,
            Integer.MAX_VALUE - 1, Integer.MAX_VALUE,
        };
    }
}
