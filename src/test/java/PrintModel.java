import java.math.BigInteger;
import java.util.List;
import java.util.regex.Matcher;
import java.util.regex.Pattern;

/** PRINTING written once more, by patterns and large numbers, for the program to be compared with. */
final class PrintModel {
    private static final Pattern PIECE = Pattern.compile(
            "\\\\(?<letter>[\\\\abfnrtv])"
            + "|\\\\(?<octal>[0-7]{1,3})"
            + "|(?<percent>%%)"
            + "|%(?<flags>[-+ #0]*)(?<width>[1-9][0-9]?|\\*)?(?:\\.(?<precision>\\*|[0-9]{0,2}))?"
            + "(?<length>hh|h|ll|l|j)?(?<kind>[diuoxXcsb])"
            + "|(?<plain>[^\\\\%])");
    private static final Pattern NUMBER = Pattern.compile(
            "(?<sign>[-+]?)(?:0[xX](?<hex>[0-9a-fA-F]+)|(?<octal>0[0-7]*)|(?<decimal>[1-9][0-9]*))");
    private static final Pattern IN_TEXT = Pattern.compile(
            "\\\\(?<letter>[\\\\abfnrtv])|\\\\0(?<octal>[0-7]{0,3})|(?<stop>\\\\c)|(?<plain>.)", Pattern.DOTALL);
    private static final String LETTERS = "\\abfnrtv";
    private static final String MEANINGS = "\\\u0007\b\f\n\r\t\u000b";

    private final String format;
    private final List<Object> values;
    private final StringBuilder out = new StringBuilder();
    private int taken;
    private int odd;
    private boolean stopped;

    /** The values are Longs for numbers and Strings for texts. */
    PrintModel(String format, List<Object> values) {
        this.format = format;
        this.values = values;
    }

    /** The place of the first % or backslash that is BAD, or -1. */
    static int badPlace(String format) {
        Matcher piece = PIECE.matcher(format);
        int at = 0;
        while (at < format.length()) {
            if (!piece.region(at, format.length()).lookingAt()) {
                return at;
            }
            at = piece.end();
        }
        return -1;
    }

    int odd() {
        return odd;
    }

    /** What a format without a fault prints. */
    String print() {
        int before;
        do {
            before = taken;
            Matcher piece = PIECE.matcher(format);
            while (!stopped && piece.find()) {
                printPiece(piece);
            }
        } while (!stopped && taken < values.size() && taken > before);
        return out.toString();
    }

    private void printPiece(Matcher piece) {
        if (piece.group("letter") != null) {
            out.append(MEANINGS.charAt(LETTERS.indexOf(piece.group("letter"))));
        } else if (piece.group("octal") != null) {
            out.append((char) (Integer.parseInt(piece.group("octal"), 8) % 256));
        } else if (piece.group("percent") != null) {
            out.append('%');
        } else if (piece.group("plain") != null) {
            out.append(piece.group("plain"));
        } else {
            printDirective(piece);
        }
    }

    private void printDirective(Matcher piece) {
        String flags = piece.group("flags");
        int width = sizeOf(piece.group("width"), 0);
        int precision = sizeOf(piece.group("precision"), -1);
        if (width < 0) {
            flags += "-";
            width = -width;
        }
        String kind = piece.group("kind");
        if ("csb".contains(kind)) {
            printText(kind.charAt(0), flags, width, precision);
        } else {
            printNumber(kind.charAt(0), flags, width, precision, bitsOf(piece.group("length")));
        }
    }

    private int sizeOf(String written, int ifNone) {
        if (written == null) {
            return ifNone;
        }
        if (written.equals("*")) {
            return Math.toIntExact(Math.max(-99, Math.min(99, takeNumber().longValue())));
        }
        return written.isEmpty() ? 0 : Integer.parseInt(written);
    }

    private static int bitsOf(String length) {
        if (length == null) {
            return 32;
        }
        return length.equals("hh") ? 8 : length.equals("h") ? 16 : 64;
    }

    private Object take() {
        return taken < values.size() ? values.get(taken++) : null;
    }

    private BigInteger takeNumber() {
        Object next = take();
        if (!(next instanceof String)) {
            return next == null ? BigInteger.ZERO : BigInteger.valueOf((Long) next);
        }
        String text = (String) next;
        if (text.length() > 1 && (text.charAt(0) == '\'' || text.charAt(0) == '"')) {
            odd += text.length() > 2 ? 1 : 0;
            return BigInteger.valueOf(text.charAt(1));
        }
        Matcher number = NUMBER.matcher(text);
        if (!number.lookingAt()) {
            odd++;
            return BigInteger.ZERO;
        }
        odd += number.end() < text.length() ? 1 : 0;
        return round(valueOf(number), 64, true);
    }

    private static BigInteger valueOf(Matcher number) {
        BigInteger value;
        if (number.group("hex") != null) {
            value = new BigInteger(number.group("hex"), 16);
        } else if (number.group("octal") != null) {
            value = new BigInteger(number.group("octal"), 8);
        } else {
            value = new BigInteger(number.group("decimal"));
        }
        return number.group("sign").equals("-") ? value.negate() : value;
    }

    private static BigInteger round(BigInteger value, int bits, boolean signed) {
        BigInteger most = BigInteger.ONE.shiftLeft(bits);
        BigInteger rest = value.mod(most);
        return signed && rest.testBit(bits - 1) ? rest.subtract(most) : rest;
    }

    private void printNumber(char kind, String flags, int width, int precision, int bits) {
        boolean signed = kind == 'd' || kind == 'i';
        boolean hex = kind == 'x' || kind == 'X';
        BigInteger value = round(takeNumber(), bits, signed);
        String digits = value.abs().toString(hex ? 16 : kind == 'o' ? 8 : 10);
        if (precision == 0 && value.signum() == 0) {
            digits = "";
        }
        digits = "0".repeat(Math.max(0, precision - digits.length())) + digits;
        if (kind == 'o' && flags.contains("#") && !digits.startsWith("0")) {
            digits = "0" + digits;
        }
        String front = "";
        if (signed) {
            front = value.signum() < 0 ? "-" : flags.contains("+") ? "+" : flags.contains(" ") ? " " : "";
        } else if (hex && flags.contains("#") && value.signum() != 0) {
            front = "0x";
        }
        if (flags.contains("0") && !flags.contains("-") && precision < 0) {
            digits = "0".repeat(Math.max(0, width - front.length() - digits.length())) + digits;
        }
        String made = front + digits;
        fill(kind == 'X' ? made.toUpperCase() : made, flags, width);
    }

    private void printText(char kind, String flags, int width, int precision) {
        Object next = take();
        String text = next == null ? "" : next.toString();
        if (kind == 'c') {
            boolean number = next instanceof Long;
            String character = number ? String.valueOf((char) ((Long) next & 255)) : "";
            fill(number || text.isEmpty() ? character : text.substring(0, 1), flags, width);
            return;
        }
        if (kind == 'b') {
            text = escaped(text);
        }
        boolean whole = precision < 0 || precision > text.length();
        fill(whole ? text : text.substring(0, precision), flags, width);
    }

    private String escaped(String text) {
        StringBuilder made = new StringBuilder();
        Matcher piece = IN_TEXT.matcher(text);
        while (!stopped && piece.find()) {
            if (piece.group("stop") != null) {
                stopped = true;
            } else if (piece.group("letter") != null) {
                made.append(MEANINGS.charAt(LETTERS.indexOf(piece.group("letter"))));
            } else if (piece.group("octal") != null) {
                made.append((char) (Integer.parseInt("0" + piece.group("octal"), 8) % 256));
            } else {
                made.append(piece.group("plain"));
            }
        }
        return made.toString();
    }

    private void fill(String made, String flags, int width) {
        String blanks = " ".repeat(Math.max(0, width - made.length()));
        out.append(flags.contains("-") ? made + blanks : blanks + made);
    }
}
