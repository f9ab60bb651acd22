/** Promises 10, 11 and 19: feed, cut and data. */
public final class DataTest {
    private static final Check CHECK = new Check();

    public static void main(String[] args) {
        feeding();
        everyCountOfData();
        feedingTooMuch();
        cutting();
        cuttingFull();
        reading();
        CHECK.end();
    }

    private static void feeding() {
        int a = 0x01020304;
        int b = 0x05060708;
        int c = 0x090a0b0c;
        int d = 0xfdfe00ff;
        String all = "\1\2\3\4\5\6\7\b\t\n\u000b\f\r".substring(0, 12) + "\u00fd\u00fe\0\u00ff";
        for (int many = 0; many <= 16; many++) {
            FormatDump x = new FormatDump();
            CHECK.same("feed of " + many, x.feed(many, a, b, c, d), many);
            CHECK.same("data of " + many, Check.dataOf(x), all.substring(0, many));
            CHECK.same("feed of 2 more", x.feed(2, 0xaabb0000, 0, 0, 0), many + 2);
            CHECK.same("data of 2 more", Check.dataOf(x), all.substring(0, many) + "\u00aa\u00bb");
        }
    }

    /** From every number of DATA near both ends, every number more. */
    private static void everyCountOfData() {
        for (int had = 0; had <= 256; had++) {
            if (had > 17 && had < 239) {
                continue;
            }
            for (int many = 0; many <= 16; many++) {
                FormatDump x = Check.fed(Check.mixed(had));
                String what = many + " behind " + had;
                int more = many;
                if (had + many <= 256) {
                    CHECK.same(what, x.feed(more, -1, -1, -1, -1), had + many);
                    CHECK.same(what + ": data", Check.dataOf(x),
                            Check.stringOf(Check.mixed(had)) + "\u00ff".repeat(many));
                } else {
                    CHECK.fails(what, IllegalStateException.class, () -> x.feed(more, -1, -1, -1, -1));
                    CHECK.same(what + ": as before", Check.dataOf(x), Check.stringOf(Check.mixed(had)));
                }
            }
        }
        FormatDump full = Check.fed(Check.mixed(256));
        CHECK.fails("17 behind 256", IllegalArgumentException.class, () -> full.feed(17, 0, 0, 0, 0));
        CHECK.fails("-1 behind 256", IllegalArgumentException.class, () -> full.feed(-1, 0, 0, 0, 0));
        FormatDump edges = new FormatDump();
        edges.feed(16, Integer.MIN_VALUE, Integer.MAX_VALUE, -1, 1);
        CHECK.same("the least and the greatest numbers", Check.dataOf(edges),
                "\u0080\0\0\0\u007f\u00ff\u00ff\u00ff\u00ff\u00ff\u00ff\u00ff\0\0\0\1");
    }

    private static void cuttingFull() {
        for (int n = 0; n <= 256; n++) {
            FormatDump x = Check.fed(Check.mixed(256));
            CHECK.same("cut(" + n + ") of 256", x.cut(n), 256 - n);
            CHECK.same("the first " + n, Check.dataOf(x), Check.stringOf(Check.mixed(256)).substring(0, n));
            int more = n + 1;
            CHECK.fails("cut of one more than " + n, IllegalArgumentException.class, () -> x.cut(more));
        }
        FormatDump x = new FormatDump();
        CHECK.same("cut(0) of none", x.cut(0), 0);
        CHECK.fails("cut of the least", IllegalArgumentException.class, () -> x.cut(Integer.MIN_VALUE));
        CHECK.fails("cut of the greatest", IllegalArgumentException.class, () -> x.cut(Integer.MAX_VALUE));
    }

    private static void feedingTooMuch() {
        FormatDump x = Check.fed(Check.mixed(250));
        String before = Check.stateOf(x);
        CHECK.fails("feed of -1", IllegalArgumentException.class, () -> x.feed(-1, 0, 0, 0, 0));
        CHECK.fails("feed of 17", IllegalArgumentException.class, () -> x.feed(17, 0, 0, 0, 0));
        CHECK.fails("feed of the least", IllegalArgumentException.class, () -> x.feed(Integer.MIN_VALUE, 0, 0, 0, 0));
        CHECK.fails("feed of the most", IllegalArgumentException.class, () -> x.feed(Integer.MAX_VALUE, 0, 0, 0, 0));
        CHECK.fails("feed of 7", IllegalStateException.class, () -> x.feed(7, 0, 0, 0, 0));
        CHECK.same("nothing changed", Check.stateOf(x), before);
        CHECK.same("feed of 6", x.feed(6, 0, 0, 0, 0), 256);
        CHECK.same("feed of none", x.feed(0, 1, 2, 3, 4), 256);
        CHECK.fails("feed of 1", IllegalStateException.class, () -> x.feed(1, 0, 0, 0, 0));
        CHECK.same("cut", x.cut(250), 6);
        CHECK.same("as before", Check.stateOf(x), before);
    }

    private static void cutting() {
        FormatDump x = Check.fed(Check.bytesOf("abcdef"));
        CHECK.fails("cut(-1)", IllegalArgumentException.class, () -> x.cut(-1));
        CHECK.fails("cut(7)", IllegalArgumentException.class, () -> x.cut(7));
        CHECK.same("nothing is gone", Check.dataOf(x), "abcdef");
        CHECK.same("cut(6)", x.cut(6), 0);
        CHECK.same("cut(4)", x.cut(4), 2);
        CHECK.same("four stay", Check.dataOf(x), "abcd");
        CHECK.fails("cut(5) of four", IllegalArgumentException.class, () -> x.cut(5));
        Check.feed(x, Check.bytesOf("xy"));
        CHECK.same("more behind them", Check.dataOf(x), "abcdxy");
        CHECK.same("cut(0)", x.cut(0), 6);
        CHECK.same("no data", x.data(0), -1);
        CHECK.fails("cut(1) of none", IllegalArgumentException.class, () -> x.cut(1));
    }

    private static void reading() {
        FormatDump x = Check.fed(Check.mixed(256));
        CHECK.same("all of them", Check.dataOf(x), Check.stringOf(Check.mixed(256)));
        CHECK.same("data(-1)", x.data(-1), -1);
        CHECK.same("data(256)", x.data(256), -1);
        CHECK.same("data of the least", x.data(Integer.MIN_VALUE), -1);
        CHECK.same("data of the most", x.data(Integer.MAX_VALUE), -1);
    }
}
