import java.util.List;

/** Promise 9, and texts as numbers. */
public final class OddTest {
    private static final Check CHECK = new Check();

    public static void main(String[] args) {
        plainTexts();
        oddTexts();
        everyCharacter();
        everyShortText();
        longestTexts();
        counting();
        lastGoodPrint();
        CHECK.end();
    }

    private static void reads(String text, String value, int odd) {
        FormatDump x = Check.ready("%ld", text);
        x.print();
        CHECK.same("<" + text + "> as a number", Check.outputOf(x), value);
        CHECK.same("<" + text + "> is odd", x.odd(), odd);
    }

    private static void plainTexts() {
        reads("0", "0", 0);
        reads("7", "7", 0);
        reads("+7", "7", 0);
        reads("-7", "-7", 0);
        reads("1234567890", "1234567890", 0);
        reads("017", "15", 0);
        reads("-017", "-15", 0);
        reads("00", "0", 0);
        reads("0x1f", "31", 0);
        reads("0X1F", "31", 0);
        reads("+0xaBcDeF", "11259375", 0);
        reads("-0x10", "-16", 0);
        reads("'A", "65", 0);
        reads("\"A", "65", 0);
        reads("''", "39", 0);
        reads("'\"", "34", 0);
        reads("'\u00ff", "255", 0);
        reads("9223372036854775807", "9223372036854775807", 0);
        reads("9223372036854775808", "-9223372036854775808", 0);
        reads("-9223372036854775808", "-9223372036854775808", 0);
        reads("-9223372036854775809", "9223372036854775807", 0);
        reads("18446744073709551616", "0", 0);
        reads("18446744073709551617", "1", 0);
        reads("0xffffffffffffffff", "-1", 0);
        reads("-0xffffffffffffffff", "1", 0);
        reads("0x123456789abcdef01", "2541551405711093505", 0);
        reads("01777777777777777777777", "-1", 0);
        reads("02000000000000000000001", "1", 0);
        reads("99999999999999999999", "7766279631452241919", 0);
    }

    private static void oddTexts() {
        reads("", "0", 1);
        reads("+", "0", 1);
        reads("-", "0", 1);
        reads("x", "0", 1);
        reads(" 1", "0", 1);
        reads("1 ", "1", 1);
        reads("12kg", "12", 1);
        reads("-12kg", "-12", 1);
        reads("1+", "1", 1);
        reads("+-1", "0", 1);
        reads("--1", "0", 1);
        reads("0x", "0", 1);
        reads("-0x", "0", 1);
        reads("0xg", "0", 1);
        reads("0x-1", "0", 1);
        reads("0x1g", "1", 1);
        reads("08", "0", 1);
        reads("018", "1", 1);
        reads("1x2", "1", 1);
        reads("12a", "12", 1);
        reads("x1", "0", 1);
        reads("'", "0", 1);
        reads("\"", "0", 1);
        reads("'ab", "97", 1);
        reads("+'a", "0", 1);
        reads(" 'a", "0", 1);
        reads("0'a", "0", 1);
        reads("00x1", "0", 1);
    }

    private static void likeModel(String text) {
        PrintModel model = new PrintModel("%ld", List.of(text));
        String due = model.print();
        reads(text, due, model.odd());
    }

    /** Every character alone, behind a ' and behind a digit. */
    private static void everyCharacter() {
        for (int c = 1; c < 256; c++) {
            reads("'" + (char) c, String.valueOf(c), 0);
            reads("\"" + (char) c, String.valueOf(c), 0);
            boolean digit = c >= '0' && c <= '9';
            reads(String.valueOf((char) c), digit ? String.valueOf((char) c) : "0", digit ? 0 : 1);
            reads("1" + (char) c, digit ? "1" + (char) c : "1", digit ? 0 : 1);
            int octal = c >= '0' && c <= '7' ? c - '0' : -1;
            reads("0" + (char) c, octal >= 0 ? String.valueOf(octal) : "0", octal >= 0 ? 0 : 1);
            int hex = c < 128 ? Character.digit(c, 16) : -1;
            reads("0x" + (char) c, String.valueOf(Math.max(0, hex)), hex >= 0 ? 0 : 1);
        }
    }

    /** All texts of up to four of the characters that mean something. */
    private static void everyShortText() {
        String some = "+-0179xXaFg'\" ";
        for (int length = 0; length <= 4; length++) {
            int many = (int) Math.pow(some.length(), length);
            for (int k = 0; k < many; k++) {
                StringBuilder text = new StringBuilder();
                for (int rest = k, j = 0; j < length; j++, rest /= some.length()) {
                    text.append(some.charAt(rest % some.length()));
                }
                likeModel(text.toString());
            }
        }
    }

    private static void longestTexts() {
        likeModel("9".repeat(80));
        likeModel("-" + "9".repeat(79));
        likeModel("0x" + "f".repeat(78));
        likeModel("0x" + "e".repeat(77) + "g");
        likeModel("0" + "7".repeat(79));
        likeModel("0".repeat(80));
        likeModel("0".repeat(79) + "8");
        likeModel("1".repeat(79) + " ");
        likeModel("'" + "a".repeat(79));
    }

    private static void counting() {
        FormatDump x = Check.ready("%*.*d|%s|%c|%b|%x", "a", "2b", "3c", "4d", "5e", "6f", "7g");
        x.print();
        CHECK.same("print", Check.outputOf(x), "03|4d|5|6f|7");
        CHECK.same("stars and x are numbers, s c b are not", x.odd(), 4);
        FormatDump y = Check.ready("%d%d%d", 1);
        y.print();
        CHECK.same("what is not left is not odd", y.odd(), 0);
        FormatDump z = Check.ready("%d%b%d", "a", "b\\c", "c");
        z.print();
        CHECK.same("what was not taken is not odd", z.odd(), 1);
        FormatDump eight = Check.ready("%u", "a", "b", "c", "d", "e", "f", "g", "h");
        eight.print();
        CHECK.same("all eight", eight.odd(), 8);
    }

    private static void lastGoodPrint() {
        FormatDump x = new FormatDump();
        Check.type(x, "%");
        x.print();
        CHECK.same("no print without a fault yet", x.odd(), 0);
        x.erase();
        Check.arguments(x, "a", "b", "c");
        Check.type(x, "%d");
        CHECK.same("before print", x.odd(), 0);
        x.print();
        CHECK.same("behind print", x.odd(), 3);
        x.print();
        CHECK.same("not added up", x.odd(), 3);
        x.room(2);
        CHECK.same("a full print", x.print(), FormatDump.FULL);
        CHECK.same("odd stays behind it", x.odd(), 3);
        x.none();
        CHECK.same("odd stays behind none", x.odd(), 3);
        x.back(1, 1);
        x.words(8, 'o', 1, true);
        CHECK.same("odd stays behind back and words", x.odd(), 3);
        x.print();
        CHECK.same("a good print counts anew", x.odd(), 0);
    }
}
