/** Promise 8: the edges of a format: which \ and % are BAD, the digits, the sizes, the * and the lengths. */
public final class FormatEdgesTest {
    private static final Check CHECK = new Check();

    public static void main(String[] args) {
        everyEscape();
        digitsOfEscapes();
        everyPercent();
        widths();
        precisions();
        starWidths();
        starPrecisions();
        leastAndGreatest();
        zeroWithPrecision();
        howOften();
        whatIsNotLeft();
        numbersAsTexts();
        charactersOfNumbers();
        textsCutShort();
        escapesInTexts();
        whereTextsEnd();
        faultsGoFirst();
        CHECK.end();
    }

    private static void prints(String format, String due, Object... values) {
        CHECK.same("print of " + format, Check.printed(format, values), due);
    }

    private static void isBad(String format, int place) {
        FormatDump x = Check.ready(format, 5, 6);
        CHECK.same("print of " + format, x.print(), FormatDump.BAD);
        CHECK.same("place in " + format, x.place(), place);
    }

    /** "another \ is BAD": every character behind it, and nothing. */
    private static void everyEscape() {
        isBad("\\", 0);
        for (int c = 1; c < 256; c++) {
            String format = "ab\\" + (char) c;
            int known = "\\abfnrtv".indexOf(c);
            if (known >= 0) {
                prints(format, "ab" + (char) new int[] {92, 7, 8, 12, 10, 13, 9, 11}[known]);
            } else if (c >= '0' && c <= '7') {
                prints(format, "ab" + (char) (c - '0'));
            } else {
                isBad(format, 2);
            }
        }
    }

    /** "one to three digits 0 .. 7, as many as there are, ... its lowest 8 bits". */
    private static void digitsOfEscapes() {
        for (int number = 0; number < 512; number++) {
            String three = String.format("%03o", number);
            prints("\\" + three, String.valueOf((char) (number % 256)));
            prints("\\" + three + "7", (char) (number % 256) + "7");
            prints("\\" + three + "\\" + three, String.valueOf((char) (number % 256)).repeat(2));
            if (number < 64) {
                String two = String.format("%02o", number);
                prints("\\" + two, String.valueOf((char) number));
                prints("\\" + two + "8", (char) number + "8");
                prints("\\" + two + "/", (char) number + "/");
            }
            if (number < 8) {
                prints("\\" + number + "9", (char) number + "9");
                prints("\\" + number + "%%", (char) number + "%");
            }
        }
    }

    /** "another % is BAD": every character behind a % and behind each part that may follow it. */
    private static void everyPercent() {
        String[] fronts = {"", "-", "+", " ", "#", "0", "-0", "1", "9", "10", "99", "*", ".", ".0", ".9", ".00", ".99", ".*",
            "5.", "5.5", "*.*", "*.5", "5.*", "h", "hh", "l", "ll", "j", "5h", ".5hh", "0*.*ll"};
        for (String front : fronts) {
            isBad("%" + front, 0);
            for (int c = 1; c < 256; c++) {
                String format = "a%" + front + (char) c;
                boolean good = "diuoxXcsb".indexOf(c) >= 0 || (c == '%' && front.isEmpty());
                if (good) {
                    FormatDump x = Check.ready(format, 5, 6, 7);
                    CHECK.same("print of " + format + " is good", x.print() > 0, true);
                    CHECK.same("place of " + format, x.place(), -1);
                } else {
                    isBad(format, 1);
                }
                CHECK.same("the same by the model: " + format, PrintModel.badPlace(format), good ? -1 : 1);
            }
        }
    }

    /** "WIDTH is one or two digits, the first not 0". */
    private static void widths() {
        for (int width = 1; width <= 99; width++) {
            String blanks = " ".repeat(width - 1);
            String zeros = "0".repeat(width - 1);
            prints("%" + width + "d", blanks + "7", 7);
            prints("%-" + width + "d", "7" + blanks, 7);
            prints("%0" + width + "d", zeros + "7", 7);
            prints("%" + width + "s", blanks + "a", "a");
            prints("%-" + width + "b", "a" + blanks, "a");
            prints("%0" + width + "c", blanks + "a", "a");
        }
        isBad("%100d", 0);
        isBad("%990d", 0);
        isBad("%0100d", 0);
        prints("%0099d", "0".repeat(98) + "7", 7);
        prints("[%1d][%2d][%3d]", "[123][123][123]", 123, 123, 123);
        prints("[%4d][%3d]", "[ 123][-12]", 123, -12);
        prints("[%2x][%3x][%#4x][%#5x]", "[ff][ ff][0xff][ 0xff]", 255, 255, 255, 255);
        prints("[%03d][%04d][%+04d]", "[-12][-012][+012]", -12, -12, 12);
    }

    /** "PRECISION up to two digits (none: 0)". */
    private static void precisions() {
        for (int precision = 1; precision <= 99; precision++) {
            prints("%." + precision + "d", "-" + "0".repeat(precision - 1) + "7", -7);
            prints("%." + precision + "s", "0123456789".repeat(8).substring(0, Math.min(80, precision)),
                    "0123456789".repeat(8));
        }
        prints("[%.d][%.0d][%.00d]", "[7][7][7]", 7, 7, 7);
        prints("[%.s][%.0s][%.00s]", "[][][]", "a", "b", "c");
        prints("[%.01d][%.09d]", "[7][000000007]", 7, 7);
        isBad("%.100d", 0);
        isBad("%.000d", 0);
        isBad("%.990s", 0);
    }

    private static void starWidths() {
        for (long width = -103; width <= 103; width++) {
            int size = (int) Math.min(99, Math.abs(width));
            String blanks = " ".repeat(Math.max(0, size - 1));
            prints("%*d|", width < 0 ? "7" + blanks + "|" : blanks + "7|", width, 7);
            prints("%*s|", width < 0 ? "7" + blanks + "|" : blanks + "7|", String.valueOf(width), "7");
            prints("%-*d|", "7" + blanks + "|", width, 7);
            prints("%0*d|", width < 0 ? "7" + blanks + "|" : blanks.replace(' ', '0') + "7|", width, 7);
        }
        long[] large = {Integer.MAX_VALUE, 1L << 31, (1L << 32) - 1, 1L << 32, (1L << 32) + 5, Long.MAX_VALUE};
        for (long width : large) {
            prints("%*d", " ".repeat(98) + "7", width, 7);
            prints("%*d", "7" + " ".repeat(98), -width, 7);
            prints("%.*d", "0".repeat(98) + "7", width, 7);
            prints("%.*d", "7", -width, 7);
        }
        prints("%*d", "7" + " ".repeat(98), Integer.MIN_VALUE, 7);
        prints("%*d", "7" + " ".repeat(98), Long.MIN_VALUE, 7);
        prints("%*d", " ".repeat(98) + "7", "9223372036854775807", 7);
        prints("%*d", "7" + " ".repeat(98), "9223372036854775808", 7);
        prints("%*d", "7", "18446744073709551616", 7);
    }

    private static void starPrecisions() {
        for (long precision = -103; precision <= 103; precision++) {
            int size = (int) Math.min(99, precision);
            prints("%.*d|", "0".repeat(Math.max(0, size - 1)) + "7|", precision, 7);
            String text = "abcdefghij".repeat(8);
            prints("%.*s", precision < 0 ? text : text.substring(0, Math.min(size, 80)), precision, text);
            prints("%.*b", precision < 0 ? text : text.substring(0, Math.min(size, 80)), precision, text);
            prints("%03.*d|", precision < 0 ? "007|" : " ".repeat(Math.max(0, 3 - Math.max(1, size)))
                    + "0".repeat(Math.max(0, size - 1)) + "7|", precision, 7);
        }
        prints("[%.*d][%.*d]", "[][0]", 0, 0, -1, 0);
        prints("%.*d", "7", Long.MIN_VALUE, 7);
        prints("%.*d", "7", Integer.MIN_VALUE, 7);
    }

    /** The least and the greatest of every LENGTH, and the first ones beyond them. */
    private static void leastAndGreatest() {
        prints("%hhd,", "127,-128,-128,127,-1,0,", 127, 128, -128, -129, 255, 256);
        prints("%hd,", "32767,-32768,-32768,32767,-1,0,", 32767, 32768, -32768, -32769, 65535, 65536);
        prints("%d,", "2147483647,-2147483648,-2147483648,2147483647,-1,0,",
                2147483647L, 2147483648L, -2147483648L, -2147483649L, 4294967295L, 4294967296L);
        prints("%hhu,", "127,128,128,127,255,0,", 127, 128, -128, -129, 255, 256);
        prints("%hu,", "32767,32768,32768,32767,65535,0,", 32767, 32768, -32768, -32769, 65535, 65536);
        prints("%u,", "2147483647,2147483648,2147483648,2147483647,4294967295,0,",
                2147483647L, 2147483648L, -2147483648L, -2147483649L, 4294967295L, 4294967296L);
        String[] longs = {"l", "ll", "j"};
        for (String length : longs) {
            prints("%" + length + "d,", "9223372036854775807,-9223372036854775808,", Long.MAX_VALUE, Long.MIN_VALUE);
            prints("%" + length + "i,", "9223372036854775807,-9223372036854775808,", "9223372036854775807",
                    "9223372036854775808");
            prints("%" + length + "u,", "9223372036854775807,9223372036854775808,18446744073709551615,",
                    Long.MAX_VALUE, Long.MIN_VALUE, -1);
            prints("%" + length + "o,", "777777777777777777777,1000000000000000000000,1777777777777777777777,",
                    Long.MAX_VALUE, Long.MIN_VALUE, -1);
            prints("%" + length + "x,", "7fffffffffffffff,8000000000000000,ffffffffffffffff,",
                    Long.MAX_VALUE, Long.MIN_VALUE, -1);
            prints("%#" + length + "X,", "0X7FFFFFFFFFFFFFFF,0X8000000000000000,0XFFFFFFFFFFFFFFFF,",
                    Long.MAX_VALUE, Long.MIN_VALUE, -1);
        }
        prints("%+ld,%025ld,%-25ld,%.25ld", "-9223372036854775808,-000009223372036854775808,"
                + "-9223372036854775808     ,-0000009223372036854775808",
                Long.MIN_VALUE, Long.MIN_VALUE, Long.MIN_VALUE, Long.MIN_VALUE);
        prints("%hhx,%ho,%x", "80,100000,80000000", Long.MIN_VALUE + 128, 32768, Integer.MIN_VALUE);
    }

    /** "none at all for 0 with PRECISION 0", and also of what is 0 by its LENGTH alone. */
    private static void zeroWithPrecision() {
        String[] kinds = {"d", "i", "u", "o", "x", "X"};
        for (String kind : kinds) {
            prints("[%.0" + kind + "][%." + kind + "][%.1" + kind + "][%" + kind + "]", "[][][0][0]", 0, 0, 0, 0);
            prints("[%.0" + kind + "][%3.0" + kind + "][%-3.0" + kind + "]", "[1][   ][   ]", 1, 0, 0);
            prints("[%.0hh" + kind + "][%.0h" + kind + "][%.0" + kind + "]", "[][][]", 256, 65536, 1L << 32);
            prints("[%.0l" + kind + "][%03.0" + kind + "]", "[][   ]", "18446744073709551616", 0);
            prints("[%.*" + kind + "][%.*" + kind + "]", "[][0]", 0, 0, -1, 0);
            prints("[%.0" + kind + "]", "[]");
        }
        prints("[%+.0d][% .0d][%+4.0d][%-+4.0i]", "[+][ ][   +][+   ]", 0, 0, 0, 0);
        prints("[%#.0x][%#.0X][%#.0o][%#4.0o][%#4.0x]", "[][][0][   0][    ]", 0, 0, 0, 0, 0);
        prints("[%#x][%#.3x][%#hhx][%#04x]", "[0][000][0][0000]", 0, 0, 256, 0);
        prints("[%#o][%#.2o][%#.3o][%#.4o]", "[0777][0777][0777][0777]", 511, 511, 511, 511);
    }

    /** "again from the front, as long as ARGUMENTS are left and the last time took some". */
    private static void howOften() {
        for (int many = 0; many <= 8; many++) {
            Object[] values = new Object[many];
            StringBuilder all = new StringBuilder();
            for (int k = 0; k < many; k++) {
                values[k] = k + 1;
                all.append(k + 1);
            }
            prints("", "", values);
            prints("x%%\\n", "x%\n", values);
            for (int directives = 1; directives <= 10; directives++) {
                int times = Math.max(1, (many + directives - 1) / directives);
                String due = all + "0".repeat(times * directives - many);
                StringBuilder lines = new StringBuilder();
                for (int k = 0; k < times; k++) {
                    lines.append(due, k * directives, (k + 1) * directives).append(';');
                }
                prints("%d".repeat(directives) + ";", lines.toString(), values);
            }
        }
        prints("%*d;", "1;  0;", 1, 1, 3);
        prints("%.*d;", "1;;", 1, 1, 0);
        prints("%*.*d;", " 3; ;", 2, 1, 3, 1);
    }

    /** "0, or a text without characters, if there is none left". */
    private static void whatIsNotLeft() {
        prints("[%d][%i][%u][%o][%x][%X][%c][%s][%b]", "[0][0][0][0][0][0][][][]");
        prints("[%d][%3d][%-3s][%3c][%2b][%*d][%.*d]", "[5][  0][   ][   ][  ][0][]", 5);
        prints("[%-*d][%*s][%.*s]", "[0][][]");
        FormatDump x = Check.ready("%d%u%*.*x", "");
        x.print();
        CHECK.same("an empty text is odd, what is not left is not", x.odd(), 1);
    }

    /** "A number as a text: its digits, with - if below 0". */
    private static void numbersAsTexts() {
        prints("%s,", "0,-1,1,-9223372036854775808,9223372036854775807,2147483648,-2147483649,", 0, -1, 1,
                Long.MIN_VALUE, Long.MAX_VALUE, 2147483648L, -2147483649L);
        prints("%b,", "0,-1,1,-9223372036854775808,9223372036854775807,2147483648,-2147483649,", 0, -1, 1,
                Long.MIN_VALUE, Long.MAX_VALUE, 2147483648L, -2147483649L);
        prints("[%.1s][%.2s][%4s][%-4b][%hhs]", "[-][-1][ -12][-12 ][-300]", -12, -12, -12, -12, -300);
        prints("[%.0s][%.20s][%.19s][%21s]", "[][-9223372036854775808][-922337203685477580][ -9223372036854775808]",
                Long.MIN_VALUE, Long.MIN_VALUE, Long.MIN_VALUE, Long.MIN_VALUE);
    }

    private static void charactersOfNumbers() {
        for (int value = 0; value < 256; value++) {
            prints("%c", String.valueOf((char) value), value);
            prints("%c", String.valueOf((char) value), value - 256);
            prints("%c", String.valueOf((char) value), Long.MIN_VALUE + value);
        }
        prints("[%c][%2c][%-2c]", "[\u00ff][ \0][\u00ff ]", Long.MAX_VALUE, Long.MIN_VALUE, -1);
        prints("[%c][%c][%2c]", "[][6][  ]", "", "65", "");
    }

    private static void textsCutShort() {
        String most = "abcdefghij".repeat(8);
        prints("%.79s", most.substring(0, 79), most);
        prints("%.80s", most, most);
        prints("%.81s", most, most);
        prints("%81s", " " + most, most);
        prints("%80s", most, most);
        prints("%-81b|", most + " |", most);
        prints("[%.3s][%.2s][%.4s]", "[abc][ab][abc]", "abc", "abc", "abc");
        prints("%.80b", "\n".repeat(40), "\\n".repeat(40));
        prints("%b", "\0".repeat(17), "\\0000".repeat(15) + "\\0\\0");
        prints("%b", "\\".repeat(40), "\\".repeat(80));
        prints("%b", "\\".repeat(40), "\\".repeat(79));
    }

    /** What each character behind a \ makes in a text: "another \ is itself". */
    private static void escapesInTexts() {
        prints("%b", "\\", "\\");
        for (int c = 1; c < 256; c++) {
            int known = "\\abfnrtv".indexOf(c);
            String due = "a\\" + (char) c + "z";
            if (known >= 0) {
                due = "a" + (char) new int[] {92, 7, 8, 12, 10, 13, 9, 11}[known] + "z";
            } else if (c == '0') {
                due = "a\0z";
            } else if (c == 'c') {
                due = "a";
            }
            prints("%b", due, "a\\" + (char) c + "z");
        }
        for (int number = 0; number < 512; number++) {
            String three = String.format("%03o", number);
            prints("%b", (char) (number % 256) + "7", "\\0" + three + "7");
            if (number < 64) {
                prints("%b", (char) number + "8", "\\0" + String.format("%02o", number) + "8");
            }
            if (number < 8) {
                prints("%b", (char) number + "9", "\\0" + number + "9");
            }
        }
    }

    /** "\c: with it, also behind what PRECISION lets be seen, all PRINTING ends". */
    private static void whereTextsEnd() {
        for (int precision = 0; precision <= 5; precision++) {
            String seen = "abc".substring(0, Math.min(3, precision));
            prints("<%." + precision + "b>%d", "<" + seen, "abc\\cdef", 7);
            prints("<%6." + precision + "b>%d", "<" + " ".repeat(6 - seen.length()) + seen, "abc\\cdef", 7);
            prints("<%-6." + precision + "b>%d", "<" + seen + " ".repeat(6 - seen.length()), "abc\\cdef", 7);
        }
        prints("%b", "", "\\c");
        prints("%b", "", "\\c", "more");
        prints("%3b%d", "   ", "\\c", 7);
        prints("%d%b%d", "1a2", 1, "a", 2);
        prints("%d%b%d", "1a23b", 1, "a", 2, 3, "b\\c", 4);
        prints("%s%c%b", "\\c\\", "\\c", "\\c", "\\c");
        prints("%b", "\0c", "\\0c");
        prints("%b", "x".repeat(78), "x".repeat(78) + "\\c");
        FormatDump x = Check.ready("%d%b%d", "q", "\\c", "r");
        CHECK.same("print until the end", x.print(), 1);
        CHECK.same("odd until the end", x.odd(), 1);
        x.room(0);
        CHECK.same("what is before the end does not fit", x.print(), FormatDump.FULL);
    }

    /** BAD "before any ARGUMENT is taken", and before anything is FULL or at its end. */
    private static void faultsGoFirst() {
        FormatDump x = Check.ready("%d%b%q", "odd", "\\c");
        x.room(0);
        CHECK.same("bad", x.print(), FormatDump.BAD);
        CHECK.same("its place", x.place(), 4);
        CHECK.same("nothing was odd", x.odd(), 0);
        isBad("%d%q%q", 2);
        isBad("\\q%q", 0);
        isBad("%q\\q", 0);
        isBad("%%\\\\%", 4);
    }
}
