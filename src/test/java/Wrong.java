import java.util.Arrays;

/** Arguments just outside, far outside, and such as would be right if bits of them were lost. */
final class Wrong {
    private static final int[] FAR = {256, 65536, Integer.MAX_VALUE, Integer.MIN_VALUE, Integer.MIN_VALUE + 1};

    static final int[] SYMBOLS = with(-1, -2, -24, 24, 25, 32);
    static final int[] NONTERMINALS = with(-1, -2, -8, 8, 9, 15, 16, 23, 24, 32);
    static final int[] LENGTHS = with(-1, -2, -16, 17, 18, 32);
    static final int[] WHATS = with(-1, -2, 3, 4, 32);
    static final long[] NUMBERS = {
        -1, -2, Integer.MIN_VALUE, 1L << 32, Grammars.MOST, Long.MIN_VALUE, Long.MIN_VALUE + 1, Long.MAX_VALUE,
    };

    private Wrong() {
    }

    /** No numbers of rules or places, if there are so many. */
    static int[] places(int size) {
        return with(-1, -2, -24, size, size + 1, size + 32);
    }

    private static int[] with(int... near) {
        int[] all = Arrays.copyOf(near, near.length + FAR.length);
        System.arraycopy(FAR, 0, all, near.length, FAR.length);
        return all;
    }
}
