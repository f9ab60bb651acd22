/** Promises 1 to 3: a new object, type and erase. */
public final class LineTest {
    private static final Check CHECK = new Check();

    public static void main(String[] args) {
        newObject();
        typing();
        fullLine();
        erasing();
        CHECK.end();
    }

    private static void newObject() {
        CHECK.same("NONE", FormatDump.NONE, -1);
        CHECK.same("BAD", FormatDump.BAD, -2);
        CHECK.same("FULL", FormatDump.FULL, -3);
        FormatDump x = new FormatDump();
        CHECK.same("new: output", x.output(0), -1);
        CHECK.same("new: data", x.data(0), -1);
        CHECK.same("new: odd", x.odd(), 0);
        CHECK.same("new: place", x.place(), -1);
        CHECK.same("new: none", x.none(), 0);
        CHECK.same("new: erase", x.erase(), 0);
        CHECK.same("new: print", x.print(), 0);
        CHECK.same("new: cut(0)", x.cut(0), 0);
        CHECK.same("new: trim(0)", x.trim(0), 0);
        CHECK.same("new: back of nothing", x.back(16, 2), 0);
    }

    private static void typing() {
        FormatDump x = new FormatDump();
        CHECK.same("type nothing", x.type(0, 0, 0, 0, 0), 0);
        CHECK.same("type abcd, e", x.type(0x61626364, 0x65000000, 0, 0, 0), 5);
        CHECK.same("zeros between are none", x.type(0x00660067, 0, 0x68000000, 0, 0x00000069), 9);
        CHECK.same("highest bytes count", x.type(0xfffefdfc, 0, 0, 0, 0x80000000), 14);
        x.print();
        CHECK.same("what was typed", Check.outputOf(x), "abcdefghi\u00ff\u00fe\u00fd\u00fc\u0080");
        FormatDump y = new FormatDump();
        CHECK.same("twenty at once", Check.typeOnce(y, "abcdefghijklmnopqrst"), 20);
        y.print();
        CHECK.same("all twenty", Check.outputOf(y), "abcdefghijklmnopqrst");
    }

    private static void fullLine() {
        FormatDump x = new FormatDump();
        Check.type(x, "0123456789".repeat(8).substring(0, 79));
        CHECK.fails("81 characters", IllegalStateException.class, () -> Check.typeOnce(x, "ab"));
        CHECK.same("79 are still there", x.type(0, 0, 0, 0, 0), 79);
        for (int k = 0; k < 5; k++) {
            int[] w = new int[5];
            w[k] = 0x61620000;
            CHECK.fails("81 characters by number " + k, IllegalStateException.class,
                    () -> x.type(w[0], w[1], w[2], w[3], w[4]));
        }
        CHECK.same("79 all the same", x.type(0, 0, 0, 0, 0), 79);
        CHECK.same("the 80th", x.type(0, 0, 0, 0, 'z'), 80);
        CHECK.fails("one more", IllegalStateException.class, () -> x.type('y', 0, 0, 0, 0));
        CHECK.same("none more is fine", x.type(0, 0, 0, 0, 0), 80);
        CHECK.same("print of 80", x.print(), 80);
        CHECK.same("the last", x.output(79), (int) 'z');
    }

    private static void erasing() {
        FormatDump x = new FormatDump();
        Check.type(x, "hello");
        CHECK.same("erase", x.erase(), 5);
        CHECK.same("erase again", x.erase(), 0);
        CHECK.same("print of an empty line", x.print(), 0);
        CHECK.same("type anew", Check.typeOnce(x, "xy"), 2);
        x.print();
        CHECK.same("only the new ones", Check.outputOf(x), "xy");
        CHECK.same("the line stays behind print", x.erase(), 2);
        CHECK.same("the output stays behind erase", Check.outputOf(x), "xy");
    }
}
