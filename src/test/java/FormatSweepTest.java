import java.util.List;

/** Promise 8 again: every mixture of flags, widths, precisions, lengths and letters, compared with PrintModel. */
public final class FormatSweepTest {
    private static final Check CHECK = new Check();
    private static final String[] WIDTHS = {"", "1", "7", "30"};
    private static final String[] PRECISIONS = {"", ".", ".0", ".1", ".4", ".25"};
    private static final String[] LENGTHS = {"", "hh", "h", "l", "ll", "j"};
    private static final long[] VALUES = {0, 1, -1, 8, 127, 128, 255, 256, -128, -129, 32767, 32768, 65535, 65536,
        -32768, -32769, Integer.MAX_VALUE, 1L << 31, (1L << 32) - 1, 1L << 32, Integer.MIN_VALUE, -(1L << 31) - 1,
        123456789012345L, Long.MAX_VALUE, Long.MIN_VALUE};

    public static void main(String[] args) {
        for (int flags = 0; flags < 32; flags++) {
            for (String width : WIDTHS) {
                for (String precision : PRECISIONS) {
                    sweep(flags, width, precision);
                }
            }
        }
        CHECK.end();
    }

    private static void sweep(int flags, String width, String precision) {
        String front = "%";
        for (int k = 0; k < 5; k++) {
            front += (flags >> k & 1) == 0 ? "" : "-+ #0".charAt(k);
        }
        front += width + precision;
        for (String length : LENGTHS) {
            for (char letter : "diuoxX".toCharArray()) {
                for (long value : VALUES) {
                    compare(front + length + letter, value);
                }
            }
            for (char letter : "csb".toCharArray()) {
                compare(front + length + letter, 65L);
                compare(front + length + letter, "");
                compare(front + length + letter, "a\\tbc\\cd");
            }
        }
    }

    private static void compare(String format, Object value) {
        CHECK.same(format + " of " + value, Check.printed(format, value),
                new PrintModel(format, List.of(value)).print());
    }
}
