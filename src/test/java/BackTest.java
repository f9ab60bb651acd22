/** Promise 14: back. */
public final class BackTest {
    private static final Check CHECK = new Check();

    public static void main(String[] args) {
        roundTrips();
        digitsLargeAndSmall();
        nothing();
        everyTrim();
        everyPatch();
        likeModel();
        otherShapes();
        places();
        tooMany();
        justTooMany();
        faultChangesNothing();
        wrongNumbers();
        CHECK.end();
    }

    /** Reads what was printed; the answer, or the place of the fault behind a "bad at". */
    private static String read(String output, int columns, int group) {
        FormatDump x = new FormatDump();
        StringBuilder format = new StringBuilder();
        for (char c : output.toCharArray()) {
            format.append(c == '%' ? "%%" : c == '\\' ? "\\\\" : c == '\n' ? "\\n" : String.valueOf(c));
        }
        Check.type(x, format.toString());
        x.print();
        return outcome(x, columns, group);
    }

    private static String outcome(FormatDump x, int columns, int group) {
        int answer = x.back(columns, group);
        if (answer == FormatDump.BAD) {
            return "bad at " + x.place();
        }
        return answer == Check.dataOf(x).length() ? "read " + Check.dataOf(x) : "answer " + answer;
    }

    private static void roundTrips() {
        for (int columns = 1; columns <= 32; columns++) {
            for (int group = 0; group <= columns; group++) {
                for (int many = 0; many <= 2 * columns + 1; many++) {
                    byte[] bytes = Check.mixed(many);
                    FormatDump x = Check.fed(bytes);
                    x.pairs(columns, group, many % 2 == 0);
                    String output = Check.outputOf(x);
                    x.cut(many / 2);
                    String what = "back(" + columns + ", " + group + ") of " + many;
                    CHECK.same(what, x.back(columns, group), many);
                    CHECK.same(what + ": data", Check.dataOf(x), Check.stringOf(bytes));
                    CHECK.same(what + ": output stays", Check.outputOf(x), output);
                    CHECK.same(what + ": place", x.place(), -1);
                }
            }
        }
        FormatDump all = Check.fed(Check.mixed(256));
        all.pairs(32, 0, true);
        all.cut(0);
        CHECK.same("256 come back", all.back(32, 0), 256);
        CHECK.same("all of them", Check.dataOf(all), Check.stringOf(Check.mixed(256)));
    }

    private static void digitsLargeAndSmall() {
        CHECK.same("mixed digits", read("00000000: aB Cd  ..\n00000002: 4a 4A  JJ\n", 2, 1), "read \u00ab\u00cdJJ");
        String[] addresses = {"0000000a", "0000000A"};
        for (String address : addresses) {
            FormatDump x = Check.fed(new byte[11]);
            x.pairs(10, 0, false);
            int at = 10 + 20 + 2 + 10 + 1;
            for (int k = 0; k < 8; k++) {
                x.patch(at + k, address.charAt(k));
            }
            CHECK.same("address " + address, x.back(10, 0), 11);
        }
    }

    private static void nothing() {
        FormatDump x = Check.fed(Check.bytes(1, 2, 3));
        CHECK.same("no line at all", x.back(4, 4), 0);
        CHECK.same("no data then", x.data(0), -1);
        CHECK.same("no place", x.place(), -1);
    }

    private static void everyTrim() {
        int[][] shapes = {{1, 0}, {3, 2}, {4, 1}, {5, 0}, {4, 4}, {6, 4}};
        for (int[] shape : shapes) {
            for (int many = 1; many <= 2 * shape[0]; many++) {
                FormatDump x = Check.fed(Check.mixed(many));
                x.pairs(shape[0], shape[1], false);
                String all = Check.outputOf(x);
                for (int length = all.length(); length >= 0; length--) {
                    String part = all.substring(0, length);
                    x.trim(length);
                    int lines = part.split("\n", -1).length - 1;
                    boolean whole = part.isEmpty() || part.endsWith("\n");
                    String bytes = Check.stringOf(Check.mixed(Math.min(many, lines * shape[0])));
                    CHECK.same("trimmed to " + length, outcome(x, shape[0], shape[1]),
                            whole ? "read " + bytes : "bad at " + length);
                }
            }
        }
    }

    /** No character of a dump may become one that is never in such a place. */
    private static void everyPatch() {
        int[][] shapes = {{1, 0}, {3, 2}, {4, 1}, {5, 0}, {4, 4}, {6, 4}};
        int[] others = {0, 'g', 'G', '/', '@', '`', 255, '\t', 127};
        for (int[] shape : shapes) {
            for (int many = 1; many <= 2 * shape[0]; many++) {
                FormatDump x = Check.fed(Check.mixed(many));
                x.pairs(shape[0], shape[1], false);
                String all = Check.outputOf(x);
                for (int k = 0; k < all.length(); k++) {
                    int other = others[k % others.length];
                    if (other == all.charAt(k)) {
                        continue;
                    }
                    int was = x.patch(k, other);
                    CHECK.same("patched at " + k, outcome(x, shape[0], shape[1]), "bad at " + k);
                    x.patch(k, was);
                }
                CHECK.same("as it was", outcome(x, shape[0], shape[1]), "read " + Check.stringOf(Check.mixed(many)));
            }
        }
    }

    /** Every character of a dump becomes every other one that a dump has, and what is bad then is asked of the model. */
    private static void likeModel() {
        int[][] shapes = {{1, 1}, {2, 1}, {3, 2}, {4, 0}, {5, 3}};
        String others = "0123456789abcdefABCDEFg: .\n\0\u00ff";
        for (int[] shape : shapes) {
            PairModel model = new PairModel(shape[0], shape[1]);
            for (int many : new int[] {1, shape[0], shape[0] + 1, 2 * shape[0], 12}) {
                FormatDump x = Check.fed(Check.mixed(many));
                x.pairs(shape[0], shape[1], many % 2 == 0);
                String all = Check.outputOf(x);
                CHECK.same("the model has no fault", model.badPlace(all), -1);
                for (int k = 0; k < all.length(); k++) {
                    for (char other : others.toCharArray()) {
                        int was = x.patch(k, other);
                        int bad = model.badPlace(all.substring(0, k) + other + all.substring(k + 1));
                        String what = "back(" + shape[0] + ", " + shape[1] + ") of " + many + ", " + (int) other + " at " + k;
                        CHECK.same(what, x.back(shape[0], shape[1]), bad < 0 ? many : FormatDump.BAD);
                        CHECK.same(what + ": place", x.place(), bad);
                        x.patch(k, was);
                    }
                }
            }
        }
    }

    /** A dump of one shape, read as if it had another one. */
    private static void otherShapes() {
        for (int columns = 1; columns <= 6; columns++) {
            for (int group = 0; group <= columns; group++) {
                for (int shape = 0; shape < 7 * 7; shape++) {
                    int asColumns = shape / 7;
                    int asGroup = shape % 7;
                    if (asColumns == 0 || asGroup > asColumns) {
                        continue;
                    }
                    for (int many = 0; many <= 7; many++) {
                        FormatDump x = Check.fed(Check.mixed(many));
                        x.pairs(columns, group, false);
                        int bad = new PairModel(asColumns, asGroup).badPlace(Check.outputOf(x));
                        String what = "back(" + asColumns + ", " + asGroup + ") of pairs(" + columns + ", " + group + ") of " + many;
                        CHECK.same(what, x.back(asColumns, asGroup), bad < 0 ? many : FormatDump.BAD);
                        CHECK.same(what + ": place", x.place(), bad);
                    }
                }
            }
        }
    }

    private static void places() {
        String good = "00000000: 6162 63    abc\n";
        CHECK.same("good", read(good, 4, 2), "read abc");
        CHECK.same("a line behind one that is not full", read(good + "00000003: 64         d\n", 4, 2),
                "bad at " + good.length());
        CHECK.same("anything behind it", read(good + "\n", 4, 2), "bad at " + good.length());
        CHECK.same("a line of no byte", read("00000000:            \n", 4, 2), "bad at 10");
        CHECK.same("an address that is not 0", read("00000001: 61  a\n", 1, 1), "bad at 7");
        CHECK.same("a second address that is wrong", read("00000000: 61  a\n00000002: 61  a\n", 1, 1), "bad at 23");
        CHECK.same("an address of seven digits", read("0000000: 61  a\n", 1, 1), "bad at 7");
        CHECK.same("an address of nine digits", read("000000000: 61  a\n", 1, 1), "bad at 8");
        CHECK.same("a byte seen as another", read("00000000: 61  b\n", 1, 1), "bad at 14");
        CHECK.same("a byte that is not seen", read("00000000: 0a  \n", 1, 1), "bad at 14");
        CHECK.same("a point that is one", read("00000000: 2e  .\n", 1, 1), "read .");
        CHECK.same("a pair without its second digit", read("00000000: 616  a\n", 2, 0), "bad at 13");
        CHECK.same("a pair behind the line's end", read("00000000: 61  62     ab\n", 4, 1), "bad at 14");
        CHECK.same("a blank less", read("00000000: 61 62     ab\n", 4, 1), "bad at 20");
        CHECK.same("a blank more", read("00000000: 61 62         ab\n", 4, 1), "bad at 23");
        CHECK.same("one character seen too many", read("00000000: 61  aa\n", 1, 1), "bad at 15");
        CHECK.same("other columns", read("00000000: 6162 6364  abcd\n", 2, 2), "bad at 15");
        CHECK.same("more columns", read("00000000: 6162 6364  abcd\n", 6, 2), "bad at 21");
        CHECK.same("another group", read("00000000: 6162 6364  abcd\n", 4, 1), "bad at 12");
        CHECK.same("a larger group", read("00000000: 6162 6364  abcd\n", 4, 3), "bad at 15");
        CHECK.same("only a blank", read(" ", 4, 3), "bad at 0");
        CHECK.same("only a newline", read("\n", 4, 3), "bad at 0");
        CHECK.same("one character", read("0", 4, 3), "bad at 1");
        CHECK.same("a blank byte begun", read("00000000:  ", 4, 3), "bad at 10");
    }

    /** Nine lines of 32 bytes 0: the pairs and addresses are made by widths, the rest is patched. */
    private static FormatDump nineLines() {
        FormatDump x = Check.ready("%0*d%0*d%0*d%0*d" + "%099d".repeat(6), 99, 0, 99, 0, 99, 0, 99, 0);
        x.print();
        return x;
    }

    private static void tooMany() {
        FormatDump x = nineLines();
        CHECK.same("990 characters 0", Check.outputOf(x), "0".repeat(990));
        int line = 109;
        patchTo(x, new PairModel(32, 0).dump(new byte[288]));
        Check.feed(x, Check.bytes(7));
        String output = Check.outputOf(x);
        CHECK.same("288 bytes", x.back(32, 0), FormatDump.FULL);
        CHECK.same("place of too many", x.place(), -1);
        CHECK.same("data stay", Check.dataOf(x), "\u0007");
        CHECK.same("output stays", Check.outputOf(x), output);
        x.patch(line * 9 - 1, ' ');
        CHECK.same("no dump at all goes before too many", outcome(x, 32, 0), "bad at " + (line * 9 - 1));
        x.trim(line * 8);
        CHECK.same("256 bytes", x.back(32, 0), 256);
        CHECK.same("256 bytes 0", Check.dataOf(x), "\0".repeat(256));
    }

    /** Makes THE OUTPUT, which has as many characters or more, this one. */
    private static void patchTo(FormatDump x, String output) {
        for (int k = 0; k < output.length(); k++) {
            x.patch(k, output.charAt(k));
        }
        x.trim(output.length());
    }

    /** 256 bytes are read back, 257 are FULL: in every shape whose dump has room. */
    private static void justTooMany() {
        for (int columns = 1; columns <= 32; columns++) {
            for (int group = 0; group <= columns; group++) {
                PairModel model = new PairModel(columns, group);
                for (int many = 255; many <= 258; many++) {
                    String dump = model.dump(Check.mixed(many));
                    if (dump.length() > 2000) {
                        continue;
                    }
                    FormatDump x = Check.fed(Check.bytes(7));
                    Whole.fill(x, 2000);
                    x.print();
                    x.back(1, 1);
                    patchTo(x, dump);
                    String what = "back(" + columns + ", " + group + ") of " + many;
                    CHECK.same(what, x.back(columns, group), many <= 256 ? many : FormatDump.FULL);
                    CHECK.same(what + ": place", x.place(), -1);
                    CHECK.same(what + ": data", Check.dataOf(x),
                            many <= 256 ? Check.stringOf(Check.mixed(many)) : "\u0007");
                    CHECK.same(what + ": output", Check.outputOf(x), dump);
                }
            }
        }
    }

    private static void faultChangesNothing() {
        FormatDump x = Check.ready("%d 000", "z");
        Check.feed(x, Check.bytes(7, 8));
        x.print();
        CHECK.same("bad", x.back(2, 1), FormatDump.BAD);
        CHECK.same("changes nothing but place", Check.stateOf(x), "0 000|\u0007\b|1|1");
        CHECK.same("the line stays", x.erase(), 6);
        CHECK.same("the arguments stay", x.none(), 1);
    }

    private static void wrongNumbers() {
        FormatDump x = Check.fed(Check.bytes(1, 2, 3));
        x.pairs(4, 2, false);
        x.cut(2);
        String before = Check.stateOf(x);
        int[][] shapes = {{0, 0}, {-1, 0}, {33, 2}, {33, 0}, {4, -1}, {4, 5}, {1, 2}, {32, 33},
            {Integer.MIN_VALUE, 0}, {Integer.MAX_VALUE, 1}, {16, Integer.MIN_VALUE}, {16, Integer.MAX_VALUE}, {0, 1}};
        for (int[] shape : shapes) {
            CHECK.fails("back(" + shape[0] + ", " + shape[1] + ")", IllegalArgumentException.class,
                    () -> x.back(shape[0], shape[1]));
        }
        CHECK.same("nothing changed", Check.stateOf(x), before);
        CHECK.same("a right one", x.back(4, 2), 3);
    }
}
