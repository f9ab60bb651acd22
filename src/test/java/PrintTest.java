/** Promise 8: print, its escapes, its directives, its passes and its faults. */
public final class PrintTest {
    private static final Check CHECK = new Check();

    public static void main(String[] args) {
        escapes();
        passes();
        stars();
        precisionsAndFlags();
        characters();
        texts();
        escapedTexts();
        endsOnce();
        missing();
        faults();
        faultChangesNothing();
        CHECK.end();
    }

    private static void prints(String format, String due, Object... values) {
        CHECK.same("print of " + format, Check.printed(format, values), due);
    }

    private static void isBad(String format, int place) {
        FormatDump x = Check.ready(format, 1, "2");
        CHECK.same("print of " + format, x.print(), FormatDump.BAD);
        CHECK.same("place in " + format, x.place(), place);
    }

    private static void escapes() {
        prints("\\\\\\a\\b\\f\\n\\r\\t\\v", "\\\u0007\b\f\n\r\t\u000b");
        prints("\\0.\\7.\\12.\\101.\\1012.\\18", "\0.\u0007.\n.A.A2.\u00018");
        prints("\\377\\400\\777\\501", "\u00ff\0\u00ffA");
        prints("%%", "%");
        prints("100%%|%%d", "100%|%d");
        prints("\u0001\u0080\u00ff plain", "\u0001\u0080\u00ff plain");
        prints("\\\\d%%\\\\", "\\d%\\");
        prints("\\045d", "%d", 5);
        prints("\\0000", "\0" + "0");
    }

    private static void passes() {
        prints("", "", 1, 2);
        prints("plain", "plain", 1, 2);
        prints("%%", "%", 1, 2);
        prints("%d ", "1 2 3 ", 1, 2, 3);
        prints("%d-%d ", "1-2 3-0 ", 1, 2, 3);
        prints("%d-%s ", "1-2 3- ", 1, 2, 3);
        prints("%d %d|", "1 2|3 4|", 1, 2, 3, 4);
        prints("%s", "12345678", 1, 2, 3, 4, 5, 6, 7, 8);
        prints("%.0s.", "..", "a", "b");
        prints("%d,", "0,");
    }

    private static void stars() {
        prints("%*d|", "    7|", 5, 7);
        prints("%*d|", "7    |", -5, 7);
        prints("%-*d|", "7    |", 5, 7);
        prints("%0*d|", "00007|", 5, 7);
        prints("%0*d|", "7    |", -5, 7);
        prints("%.*d|", "007|", 3, 7);
        prints("%.*d|", "7|", -3, 7);
        prints("%05.*d|", "00007|", -1, 7);
        prints("%05.*d|", "    7|", 0, 7);
        prints("%.*d|", "|", 0, 0);
        prints("%.*d|", "|");
        prints("%*d|", "0|");
        prints("%*.*d|", "  007|", 5, 3, 7);
        prints("%*.*s|", "  ab|", 4, 2, "abc");
        prints("%.*s|", "abc|", -2, "abc");
        prints("%*s|", " ".repeat(98) + "a|", 1000, "a");
        prints("%*s|", "a" + " ".repeat(98) + "|", -1000, "a");
        prints("%*s|", " ".repeat(98) + "a|", Long.MAX_VALUE, "a");
        prints("%*s|", "a" + " ".repeat(98) + "|", Long.MIN_VALUE, "a");
        prints("%*s|", " ".repeat(98) + "a|", 1L << 32, "a");
        prints("%.*d|", "0".repeat(98) + "5|", 1000, 5);
        prints("%.*d|", "5|", Long.MIN_VALUE, 5);
        prints("%*d|", "    7|", "5", 7);
        prints("%*d|", "    7|", "0x5", 7);
        prints("%*d|", "  0|", 3);
        prints("%*d|", "  1|0|", 3, 1, 0);
        prints("%*d|", "  1|    0|", 3, 1, 5);
    }

    private static void precisionsAndFlags() {
        prints("[%5d][%-5d][%05d]", "[   42][42   ][00042]", 42, 42, 42);
        prints("[%+d][% d][%+ d][% +d]", "[+1][ 1][+1][+1]", 1, 1, 1, 1);
        prints("[%+d][% d]", "[-1][-1]", -1, -1);
        prints("[% -+#05d][%d][%x][%-3d]", "[+1   ][1][1][1  ]", 1, 1, 1, 1);
        prints("[% d][%d][%#x][%x][%5.3d][%d]", "[ 1][1][0x1][1][  001][1]", 1, 1, 1, 1, 1, 1);
        prints("[%hhd][%d][%*d][%d][%.*d][%d]", "[1][257][  1][1][001][1]", 257, 257, 3, 1, 1, 3, 1, 1);
        prints("[%+u][% u][%+x][% o]", "[1][1][1][1]", 1, 1, 1, 1);
        prints("[%+05d][% 05d][%05d]", "[+0007][ 0007][-0007]", 7, 7, -7);
        prints("[%-05d][%0-5d][%05.2d][%-+5d]", "[7    ][7    ][   07][+7   ]", 7, 7, 7, 7);
        prints("[%.d][%.0d][%.1d][%.00d]", "[][][0][]", 0, 0, 0, 0);
        prints("[%+.0d][% .0d][%3.0d][%.0u]", "[+][ ][   ][]", 0, 0, 0, 0);
        prints("[%.05d][%.10d][%12.10d]", "[00005][0000000005][ -0000000005]", 5, 5, -5);
        prints("[%#x][%#X][%#x][%#o][%#o]", "[0xff][0XFF][0][0377][0]", 255, 255, 0, 255, 0);
        prints("[%#08x][%#-8x][%#8x][%#.4x][%#08.4x]", "[0x0000ff][0xff    ][    0xff][0x00ff][  0x00ff]",
                255, 255, 255, 255, 255);
        prints("[%#.0x][%#.0o][%#.1o][%#.3o][%#.2o]", "[][0][0][010][010]", 0, 0, 0, 8, 8);
        prints("[%#05o][%#5o][%#-5o][%#05x]", "[00010][  010][010  ][00000]", 8, 8, 8, 0);
        prints("[%#d][%#u][%#s][%#c][%#b]", "[8][8][8][z][8]", 8, 8, 8, "z", 8);
        prints("[%hhd][%hd][%d][%ld][%lld][%jd]", "[-1][-1][-1][4294967295][4294967295][4294967295]",
                255, 65535, 4294967295L, 4294967295L, 4294967295L, 4294967295L);
        prints("[%hhi][%hi][%i][%li]", "[-128][-32768][-2147483648][-9223372036854775808]",
                128, 32768, 2147483648L, Long.MIN_VALUE);
        prints("[%hhu][%hu][%u][%lu]", "[255][65535][4294967295][18446744073709551615]", -1, -1, -1, -1);
        prints("[%hho][%ho][%o][%llo]", "[377][177777][37777777777][1777777777777777777777]", -1, -1, -1, -1);
        prints("[%hhx][%hX][%x][%jX]", "[ff][FFFF][ffffffff][FFFFFFFFFFFFFFFF]", -1, -1, -1, -1);
        prints("[%hhd][%hd][%d][%#hhx]", "[0][0][0][0]", 256, 65536, 1L << 32, 256);
        prints("[%lX][%lx]", "[123456789ABCDEF0][fedcba9876543210]", 0x123456789abcdef0L, 0xfedcba9876543210L);
        prints("[%99d]", "[" + " ".repeat(98) + "1]", 1);
        prints("[%.99d]", "[-" + "0".repeat(98) + "1]", -1);
        prints("[%--++  ##00005d]", "[+5   ]", 5);
        prints("[%000d][%00012d]", "[5][000000000005]", 5, 5);
    }

    private static void characters() {
        prints("[%c][%c][%c]", "[A][\u00ff][A]", 65, -1, 256 + 65);
        prints("[%c]", "[\0]", 0);
        prints("[%c][%c]", "[h][]", "hello", "");
        prints("[%3c][%-3c][%03c]", "[  h][i  ][  j]", "h", "i", "j");
        prints("[%3c][%-2c]", "[   ][  ]", "", "");
        prints("[%.0c][%.5c]", "[h][i]", "h", "i");
        prints("[%lc][%hhc][%c]", "[h][B][\\]", "h", 66, "\\n");
    }

    private static void texts() {
        prints("[%s][%s]", "[text][]", "text", "");
        prints("[%6s][%-6s][%06s][%2s]", "[  text][text  ][  text][text]", "text", "text", "text", "text");
        prints("[%.2s][%.0s][%.s][%.9s]", "[te][][][text]", "text", "text", "text", "text");
        prints("[%5.2s][%-5.2s]", "[   te][te   ]", "text", "text");
        prints("[%s][%s][%s]", "[-5][0][9223372036854775807]", -5, 0, Long.MAX_VALUE);
        prints("[%s][%.3s][%hhs]", "[-9223372036854775808][-92][300]", Long.MIN_VALUE, Long.MIN_VALUE, 300);
        prints("[%+s][% s]", "[7][7]", 7, 7);
        prints("[%s]", "[a\\tb%d]", "a\\tb%d");
    }

    private static void escapedTexts() {
        prints("[%b]", "[\\\u0007\b\f\n\r\t\u000b]", "\\\\\\a\\b\\f\\n\\r\\t\\v");
        prints("[%b]", "[\0.\u0007.\n.A.A2]", "\\0.\\07.\\012.\\0101.\\01012");
        prints("[%b]", "[\u00ff\0\u00ff]", "\\0377\\0400\\0777");
        prints("[%b]", "[\\101\\x\\q\\8\\]", "\\101\\x\\q\\8\\");
        prints("[%b]", "[\0" + "8]", "\\08");
        prints("[%b][%b]", "[-12][]", -12, "");
        prints("[%5b][%-5b][%05b]", "[   \t|][\t|   ][   \t|]", "\\t|", "\\t|", "\\t|");
        prints("[%.2b][%.0b]", "[\tA][]", "\\t\\0101\\n", "abc");
        prints("[%b%%d]", "[%d%d]", "%d");
        prints("[%b]more", "[ab", "ab\\cde");
        prints("[%6b]more", "[    ab", "ab\\cde", "next");
        prints("[%-6b]more", "[ab    ", "ab\\cde", "next");
        prints("[%.1b]more", "[a", "abc\\cde", "next");
        prints("[%4.0b]more", "[    ", "abc\\cde", "next");
        prints("[%b]", "[a][b", "a", "b\\c", "c");
        prints("[%b]", "[\\cd]", "\\\\cd");
        prints("[%b]", "[", "\\c");
        prints("[%s]", "[a\\cb]", "a\\cb");
        prints("[%b]", "[\\", "\\\\\\c");
    }

    private static void endsOnce() {
        FormatDump x = Check.ready("[%b]", "a\\c", "b");
        CHECK.same("ended", x.print(), 2);
        CHECK.same("ended again", x.print(), 2);
        x.none();
        Check.type(x, ".");
        CHECK.same("the next print does not end", x.print(), 3);
        CHECK.same("what it printed", Check.outputOf(x), "[].");
    }

    private static void missing() {
        prints("[%d%i%u%o%x%X]", "[000000]");
        prints("[%c%s%b]", "[]");
        prints("[%3c%-3s%3b]", "[         ]");
        prints("[%3d%#x%.0d]", "[  00]");
    }

    private static void faults() {
        isBad("%", 0);
        isBad("ab%", 2);
        isBad("%e", 0);
        isBad("%ad", 0);
        isBad("%1ad", 0);
        isBad("%.ad", 0);
        isBad("%d%f", 2);
        isBad("%5%", 0);
        isBad("%-%", 0);
        isBad("%100d", 0);
        isBad("%5-d", 0);
        isBad("%.100d", 0);
        isBad("%.-1d", 0);
        isBad("%..1d", 0);
        isBad("%*5d", 0);
        isBad("%5*d", 0);
        isBad("%**d", 0);
        isBad("%.*5d", 0);
        isBad("%.5*d", 0);
        isBad("%hhhd", 0);
        isBad("%llld", 0);
        isBad("%jjd", 0);
        isBad("%hld", 0);
        isBad("%lhd", 0);
        isBad("%zd", 0);
        isBad("%Ld", 0);
        isBad("%l", 0);
        isBad("%5", 0);
        isBad("%.", 0);
        isBad("%*", 0);
        isBad("%D", 0);
        isBad("%S", 0);
        isBad("%B", 0);
        isBad("% %", 0);
        isBad("%d %l5d", 3);
        isBad("\\", 0);
        isBad("abc\\", 3);
        isBad("\\c", 0);
        isBad("\\8", 0);
        isBad("\\x41", 0);
        isBad("\\e", 0);
        isBad("\\\"", 0);
        isBad("\\A", 0);
        isBad("\\n\\ %y", 2);
        isBad("\\\\\\", 2);
        isBad("%%%", 2);
        isBad("%s\\q%d%q", 2);
        isBad("x".repeat(79) + "%", 79);
        isBad("x".repeat(79) + "\\", 79);
    }

    private static void faultChangesNothing() {
        FormatDump x = Check.ready("%d!", "1x", "y");
        Check.feed(x, Check.bytes(1, 2, 3));
        CHECK.same("a print", x.print(), 4);
        CHECK.same("its odd ones", x.odd(), 2);
        Check.type(x, "%y");
        CHECK.same("a bad print", x.print(), FormatDump.BAD);
        CHECK.same("changes nothing but place", Check.stateOf(x), "1!0!|\u0001\u0002\u0003|2|3");
        CHECK.same("the line stays", x.erase(), 5);
        CHECK.same("the arguments stay", x.none(), 2);
        FormatDump y = Check.ready("%b%y", "a\\c");
        CHECK.same("bad, though all would have ended before", y.print(), FormatDump.BAD);
        CHECK.same("place", y.place(), 2);
    }
}
