import java.math.BigInteger;

/** Promise 8 again: every mixture of flags, widths, precisions, lengths and letters of numbers. */
public final class FormatSweepTest {
    private static final Check CHECK = new Check();
    private static final String[] WIDTHS = {"", "1", "7", "30"};
    private static final String[] PRECISIONS = {"", ".", ".0", ".1", ".4", ".25"};
    private static final String[] LENGTHS = {"", "hh", "h", "l", "ll", "j"};
    private static final long[] VALUES = {0, 1, -1, 8, 255, -128, 40000, 0x80000000L, 123456789012345L,
        Long.MIN_VALUE, Long.MAX_VALUE, 1L << 32, 256};

    public static void main(String[] args) {
        for (int flags = 0; flags < 32; flags++) {
            for (String width : WIDTHS) {
                for (String precision : PRECISIONS) {
                    sweep(flags, width, precision);
                }
            }
        }
        CHECK.end();
    }

    private static void sweep(int flags, String width, String precision) {
        String front = "";
        for (int k = 0; k < 5; k++) {
            front += (flags >> k & 1) == 0 ? "" : "-+ #0".charAt(k);
        }
        for (String length : LENGTHS) {
            for (char letter : "diuoxX".toCharArray()) {
                for (long value : VALUES) {
                    String format = "%" + front + width + precision + length + letter;
                    CHECK.same(format + " of " + value, Check.printed(format, value),
                            due(front, width, precision, length, letter, value));
                }
            }
        }
    }

    private static String due(String flags, String width, String precision, String length, char letter, long value) {
        int bits = length.isEmpty() ? 32 : length.equals("hh") ? 8 : length.equals("h") ? 16 : 64;
        BigInteger round = BigInteger.ONE.shiftLeft(bits);
        BigInteger number = BigInteger.valueOf(value).mod(round);
        boolean signed = letter == 'd' || letter == 'i';
        if (signed && number.testBit(bits - 1)) {
            number = number.subtract(round);
        }
        String digits = number.abs().toString(letter == 'o' ? 8 : Character.toLowerCase(letter) == 'x' ? 16 : 10);
        int least = precision.length() < 2 ? 0 : Integer.parseInt(precision.substring(1));
        if (!precision.isEmpty() && least == 0 && number.signum() == 0) {
            digits = "";
        }
        digits = "0".repeat(Math.max(0, least - digits.length())) + digits;
        if (letter == 'o' && flags.contains("#") && !digits.startsWith("0")) {
            digits = "0" + digits;
        }
        String front = "";
        if (signed) {
            front = number.signum() < 0 ? "-" : flags.contains("+") ? "+" : flags.contains(" ") ? " " : "";
        } else if (Character.toLowerCase(letter) == 'x' && flags.contains("#") && number.signum() != 0) {
            front = "0x";
        }
        int wide = width.isEmpty() ? 0 : Integer.parseInt(width);
        int fill = Math.max(0, wide - front.length() - digits.length());
        String made = " ".repeat(fill) + front + digits;
        if (flags.contains("-")) {
            made = front + digits + " ".repeat(fill);
        } else if (flags.contains("0") && precision.isEmpty()) {
            made = front + "0".repeat(fill) + digits;
        }
        return letter == 'X' ? made.toUpperCase() : made;
    }
}
