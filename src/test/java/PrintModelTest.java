import java.util.ArrayList;
import java.util.List;

/** Promises 8 and 9: many formats and arguments, each compared with PrintModel, with room and without. */
public final class PrintModelTest {
    private static final Check CHECK = new Check();
    private static final String[] PIECES = {"%", "%", "%", "\\", "-", "+", " ", "#", "0", "1", "7", "12", "99", "100",
        ".", ".", "*", "*", "hh", "h", "l", "ll", "j", "d", "i", "u", "o", "x", "X", "c", "s", "b", "n", "q", "8",
        "%d", "%s", "%b", "%c", "%x", "%*d", "%.*s", "%%", "\\\\", "\\101", "\\n", "|", "\u00ff"};
    private static final String[] GOOD = {"%d", "%5d", "%-5i", "%05d", "%+d", "% d", "%.3d", "%.0d", "%#x", "%#X", "%#o",
        "%#.0o", "%hhd", "%hu", "%lu", "%llx", "%jo", "%c", "%3c", "%-3c", "%s", "%6s", "%-6s", "%.2s", "%b", "%6b",
        "%-6b", "%.1b", "%*d", "%-*d", "%0*d", "%.*d", "%*.*d", "%*s", "%.*s", "%*.*b", "%#0*lx", "%%", "\\t", "\\0",
        "\\377", "\\1012", "a", "|", "\u0080"};
    private static final String[] TEXTS = {"", "0", "7", "-7", "+7", "007", "08", "0x1F", "0X", "0xg", "-0x10", "12kg", "'", "'a",
        "\"ab", "+", "-", " 1", "abc", "99", "100", "-99", "-100", "a\\tb", "\\0101", "\\01012", "\\08", "x\\cy", "\\c",
        "\\\\c", "q\\", "\\q\\x", "18446744073709551615", "18446744073709551616", "-9223372036854775809",
        "01777777777777777777777", "0xfffffffffffffffff", "\u00ff\u0080"};
    private static final long[] NUMBERS = {0, 1, -1, 8, 65, 98, 99, 100, -98, -99, -100, 127, 128, 255, 256, -128, -129,
        32767, 32768, 65535, 65536, -32768, -32769, Integer.MAX_VALUE, Integer.MIN_VALUE, 1L << 31, (1L << 32) - 1,
        1L << 32, -(1L << 31) - 1, Long.MAX_VALUE, Long.MIN_VALUE};

    private static long state = 20261116;

    public static void main(String[] args) {
        for (int k = 0; k < 40000; k++) {
            compare(join(PIECES, step(8)), values());
            compare(join(GOOD, step(10)), values());
        }
        CHECK.end();
    }

    /** The next of a row of numbers 0 .. most that is the same in every run. */
    private static int step(int most) {
        state = state * 6364136223846793005L + 1442695040888963407L;
        return (int) ((state >>> 33) % (most + 1));
    }

    private static String join(String[] from, int many) {
        StringBuilder made = new StringBuilder();
        for (int k = 0; k < many; k++) {
            made.append(from[step(from.length - 1)]);
        }
        return made.toString();
    }

    private static List<Object> values() {
        List<Object> made = new ArrayList<>();
        for (int k = step(8); k > 0; k--) {
            made.add(step(1) == 0 ? TEXTS[step(TEXTS.length - 1)] : (Object) NUMBERS[step(NUMBERS.length - 1)]);
        }
        return made;
    }

    private static void compare(String format, List<Object> values) {
        FormatDump x = Check.ready(format, values.toArray());
        String what = "print of " + format + " with " + values;
        int bad = PrintModel.badPlace(format);
        if (bad >= 0) {
            CHECK.same(what, x.print(), FormatDump.BAD);
            CHECK.same(what + ": place", x.place(), bad);
            return;
        }
        PrintModel model = new PrintModel(format, values);
        String due = model.print();
        CHECK.same(what, x.print(), due.length());
        CHECK.same(what + ": output", Check.outputOf(x), due);
        CHECK.same(what + ": odd", x.odd(), model.odd());
        CHECK.same(what + ": place", x.place(), -1);
        x.room(due.length());
        CHECK.same(what + ": just room enough", x.print(), due.length());
        if (!due.isEmpty()) {
            x.room(due.length() - 1);
            CHECK.same(what + ": room for one less", x.print(), FormatDump.FULL);
            CHECK.same(what + ": empty then", x.output(0), -1);
            x.room(step(due.length() - 1));
            CHECK.same(what + ": less room", x.print(), FormatDump.FULL);
        }
    }
}
