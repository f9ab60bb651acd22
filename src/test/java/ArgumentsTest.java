/** Promises 4 to 6: number, text and none. */
public final class ArgumentsTest {
    private static final Check CHECK = new Check();

    public static void main(String[] args) {
        numbers();
        texts();
        textsOfEveryLength();
        limit();
        limitAgain();
        clearing();
        CHECK.end();
    }

    private static void numbers() {
        FormatDump x = new FormatDump();
        CHECK.same("first", x.number(5), 1);
        CHECK.same("second", x.number(Long.MIN_VALUE), 2);
        CHECK.same("third", x.number(Long.MAX_VALUE), 3);
        Check.type(x, "%ld,");
        x.print();
        CHECK.same("in their order", Check.outputOf(x), "5,-9223372036854775808,9223372036854775807,");
        x.print();
        CHECK.same("they stay", Check.outputOf(x), "5,-9223372036854775808,9223372036854775807,");
    }

    private static void texts() {
        FormatDump x = new FormatDump();
        Check.type(x, "abc");
        CHECK.same("text", x.text(), 1);
        CHECK.same("the line is empty then", x.erase(), 0);
        CHECK.same("an empty text", x.text(), 2);
        String longest = "0123456789".repeat(8);
        Check.type(x, longest);
        CHECK.same("a text of 80", x.text(), 3);
        Check.type(x, "[%s]");
        CHECK.same("print", x.print(), 89);
        CHECK.same("the texts", Check.outputOf(x), "[abc][][" + longest + "]");
    }

    private static void textsOfEveryLength() {
        for (int length = 0; length <= 80; length++) {
            String text = "0123456789".repeat(8).substring(0, length);
            FormatDump x = new FormatDump();
            Check.type(x, text);
            CHECK.same("a text of " + length, x.text(), 1);
            CHECK.same("the line behind it", x.type(0, 0, 0, 0, 0), 0);
            Check.type(x, "%s");
            CHECK.same("print of " + length, x.print(), length);
            CHECK.same("the text of " + length, Check.outputOf(x), text);
        }
        FormatDump x = new FormatDump();
        for (int k = 0; k < 8; k++) {
            Check.type(x, String.valueOf(k).repeat(80));
            CHECK.same("eight texts of 80", x.text(), k + 1);
        }
        Check.type(x, "%s|");
        CHECK.same("all of eight texts", x.print(), 8 * 81);
        CHECK.same("the last character", x.output(8 * 81 - 2), (int) '7');
    }

    /** Eight again and again, of both kinds. */
    private static void limitAgain() {
        FormatDump x = new FormatDump();
        for (int round = 0; round < 3; round++) {
            for (int k = 1; k <= 8; k++) {
                CHECK.same("number " + k, x.number(k), k);
            }
            CHECK.fails("a ninth number", IllegalStateException.class, () -> x.number(Long.MAX_VALUE));
            CHECK.fails("a ninth text of nothing", IllegalStateException.class, () -> x.text());
            CHECK.same("none of eight", x.none(), 8);
            for (int k = 1; k <= 8; k++) {
                CHECK.same("text " + k, x.text(), k);
            }
            CHECK.fails("a number behind eight texts", IllegalStateException.class, () -> x.number(0));
            CHECK.fails("a text behind eight texts", IllegalStateException.class, () -> x.text());
            CHECK.same("none of eight texts", x.none(), 8);
        }
        CHECK.same("number", x.number(0), 1);
        CHECK.same("none of one", x.none(), 1);
    }

    private static void limit() {
        FormatDump x = new FormatDump();
        for (int k = 1; k <= 8; k++) {
            Check.type(x, k % 2 == 0 ? "t" : "");
            CHECK.same("argument " + k, k % 2 == 0 ? x.text() : x.number(k), k);
        }
        Check.type(x, "%s.");
        CHECK.fails("a ninth number", IllegalStateException.class, () -> x.number(9));
        CHECK.fails("a ninth text", IllegalStateException.class, () -> x.text());
        x.print();
        CHECK.same("line and arguments stayed", Check.outputOf(x), "1.t.3.t.5.t.7.t.");
        CHECK.same("the line stayed", x.erase(), 3);
        CHECK.same("eight", x.none(), 8);
    }

    private static void clearing() {
        FormatDump x = Check.ready("%d;", 1, 2, "3");
        CHECK.same("none", x.none(), 3);
        CHECK.same("none again", x.none(), 0);
        x.print();
        CHECK.same("nothing left to take", Check.outputOf(x), "0;");
        CHECK.same("a new first one", x.number(8), 1);
        x.print();
        CHECK.same("only the new one", Check.outputOf(x), "8;");
        FormatDump y = new FormatDump();
        Check.arguments(y, "text first");
        y.none();
        y.number(65);
        Check.type(y, "%c");
        y.print();
        CHECK.same("a number where a text was", Check.outputOf(y), "A");
        y.none();
        y.erase();
        Check.arguments(y, "zebra");
        Check.type(y, "%c");
        y.print();
        CHECK.same("a text where a number was", Check.outputOf(y), "z");
    }
}
