/** Promises 1 to 3: a new object, type and erase. */
public final class LineTest {
    private static final Check CHECK = new Check();

    public static void main(String[] args) {
        newObject();
        typing();
        everyByteOfType();
        everyCharacter();
        fullLine();
        everyLengthOfLine();
        erasing();
        erasingFull();
        CHECK.end();
    }

    private static void newObject() {
        CHECK.same("NONE", FormatDump.NONE, -1);
        CHECK.same("BAD", FormatDump.BAD, -2);
        CHECK.same("FULL", FormatDump.FULL, -3);
        FormatDump x = new FormatDump();
        CHECK.same("new: output", x.output(0), -1);
        CHECK.same("new: data", x.data(0), -1);
        CHECK.same("new: odd", x.odd(), 0);
        CHECK.same("new: place", x.place(), -1);
        CHECK.same("new: none", x.none(), 0);
        CHECK.same("new: erase", x.erase(), 0);
        CHECK.same("new: print", x.print(), 0);
        CHECK.same("new: cut(0)", x.cut(0), 0);
        CHECK.same("new: trim(0)", x.trim(0), 0);
        CHECK.same("new: back of nothing", x.back(16, 2), 0);
        CHECK.same("new: words without addresses", x.words(0, 'o', 1, false), 0);
        CHECK.same("new: words", x.words(8, 'o', 1, false), 8);
        FormatDump y = new FormatDump();
        CHECK.same("new: pairs", y.pairs(16, 2, false), 0);
        CHECK.fails("new: cut(1)", IllegalArgumentException.class, () -> y.cut(1));
        CHECK.fails("new: trim(1)", IllegalArgumentException.class, () -> y.trim(1));
        CHECK.fails("new: patch(0)", IndexOutOfBoundsException.class, () -> y.patch(0, 0));
        CHECK.same("new: room is 2000", Whole.of(FormatDump::new), new Whole("", "0: <> <>", "", "", 2000, 0, -1));
    }

    private static void typing() {
        FormatDump x = new FormatDump();
        CHECK.same("type nothing", x.type(0, 0, 0, 0, 0), 0);
        CHECK.same("type abcd, e", x.type(0x61626364, 0x65000000, 0, 0, 0), 5);
        CHECK.same("zeros between are none", x.type(0x00660067, 0, 0x68000000, 0, 0x00000069), 9);
        CHECK.same("highest bytes count", x.type(0xfffefdfc, 0, 0, 0, 0x80000000), 14);
        x.print();
        CHECK.same("what was typed", Check.outputOf(x), "abcdefghi\u00ff\u00fe\u00fd\u00fc\u0080");
        FormatDump y = new FormatDump();
        CHECK.same("twenty at once", Check.typeOnce(y, "abcdefghijklmnopqrst"), 20);
        y.print();
        CHECK.same("all twenty", Check.outputOf(y), "abcdefghijklmnopqrst");
    }

    private static String typed(int... w) {
        FormatDump x = new FormatDump();
        int many = x.type(w[0], w[1], w[2], w[3], w[4]);
        x.print();
        return many + ": " + Check.outputOf(x);
    }

    /** Each of the twenty bytes alone, and each alone 0. */
    private static void everyByteOfType() {
        String all = "abcdefghijklmnopqrst";
        for (int k = 0; k < 20; k++) {
            int[] alone = new int[5];
            alone[k / 4] = 0xff << (24 - 8 * (k % 4));
            CHECK.same("byte " + k + " alone", typed(alone), "1: \u00ff");
            int[] others = Check.wordsOf(all, 5);
            others[k / 4] &= ~alone[k / 4];
            CHECK.same("all but byte " + k, typed(others), "19: " + all.substring(0, k) + all.substring(k + 1));
        }
        CHECK.same("the least number", typed(Integer.MIN_VALUE, 0, 0, 0, 0), "1: \u0080");
        CHECK.same("the greatest number", typed(0, Integer.MAX_VALUE, 0, 0, 0), "4: \u007f\u00ff\u00ff\u00ff");
    }

    private static void everyCharacter() {
        for (int c = 1; c < 256; c++) {
            if (c != '%' && c != '\\') {
                CHECK.same("character " + c, typed(c, 0, 0, 0, 0), "1: " + (char) c);
            }
        }
    }

    /** From every length, every number of characters more. */
    private static void everyLengthOfLine() {
        for (int length = 0; length <= 80; length++) {
            for (int more = 0; more <= 20; more++) {
                FormatDump x = new FormatDump();
                String what = more + " behind " + length;
                String characters = "z".repeat(more);
                Check.type(x, "y".repeat(length));
                if (length + more <= 80) {
                    CHECK.same(what, Check.typeOnce(x, characters), length + more);
                } else {
                    CHECK.fails(what, IllegalStateException.class, () -> Check.typeOnce(x, characters));
                    CHECK.same(what + ": as before", x.erase(), length);
                }
            }
        }
    }

    private static void fullLine() {
        FormatDump x = new FormatDump();
        Check.type(x, "0123456789".repeat(8).substring(0, 79));
        CHECK.fails("81 characters", IllegalStateException.class, () -> Check.typeOnce(x, "ab"));
        CHECK.same("79 are still there", x.type(0, 0, 0, 0, 0), 79);
        for (int k = 0; k < 5; k++) {
            int[] w = new int[5];
            w[k] = 0x61620000;
            CHECK.fails("81 characters by number " + k, IllegalStateException.class,
                    () -> x.type(w[0], w[1], w[2], w[3], w[4]));
        }
        CHECK.same("79 all the same", x.type(0, 0, 0, 0, 0), 79);
        CHECK.same("the 80th", x.type(0, 0, 0, 0, 'z'), 80);
        CHECK.fails("one more", IllegalStateException.class, () -> x.type('y', 0, 0, 0, 0));
        CHECK.same("none more is fine", x.type(0, 0, 0, 0, 0), 80);
        CHECK.same("print of 80", x.print(), 80);
        CHECK.same("the last", x.output(79), (int) 'z');
    }

    private static void erasing() {
        FormatDump x = new FormatDump();
        Check.type(x, "hello");
        CHECK.same("erase", x.erase(), 5);
        CHECK.same("erase again", x.erase(), 0);
        CHECK.same("print of an empty line", x.print(), 0);
        CHECK.same("type anew", Check.typeOnce(x, "xy"), 2);
        x.print();
        CHECK.same("only the new ones", Check.outputOf(x), "xy");
        CHECK.same("the line stays behind print", x.erase(), 2);
        CHECK.same("the output stays behind erase", Check.outputOf(x), "xy");
    }

    private static void erasingFull() {
        FormatDump x = new FormatDump();
        for (int length : new int[] {80, 79, 1, 0, 80}) {
            Check.type(x, "y".repeat(length));
            CHECK.same("erase of " + length, x.erase(), length);
        }
        CHECK.same("nothing is left", x.type(0, 0, 0, 0, 0), 0);
    }
}
