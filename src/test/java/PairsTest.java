/** Promise 13: pairs. */
public final class PairsTest {
    private static final Check CHECK = new Check();

    public static void main(String[] args) {
        plainDumps();
        digits();
        whatCanBeSeen();
        allShapes();
        mostData();
        wrongNumbers();
        CHECK.end();
    }

    private static String dumped(byte[] bytes, int columns, int group, boolean large) {
        FormatDump x = Check.fed(bytes);
        int answer = x.pairs(columns, group, large);
        String output = Check.outputOf(x);
        return answer == output.length() ? output : "answer " + answer + " output " + output;
    }

    private static void dumps(String due, String bytes, int columns, int group) {
        CHECK.same("pairs(" + columns + ", " + group + ")",
                dumped(Check.bytesOf(bytes), columns, group, false), due);
    }

    private static void plainDumps() {
        dumps("", "", 16, 2);
        dumps("00000000: 61  a\n", "a", 1, 0);
        dumps("00000000: 61  a\n", "a", 1, 1);
        dumps("00000000: 6162 6364  abcd\n", "abcd", 4, 2);
        dumps("00000000: 61 62 63 64  abcd\n", "abcd", 4, 1);
        dumps("00000000: 61626364  abcd\n", "abcd", 4, 0);
        dumps("00000000: 61626364  abcd\n", "abcd", 4, 4);
        dumps("00000000: 616263 64  abcd\n", "abcd", 4, 3);
        dumps("00000000: 61626364  abcd\n00000004: 65        e\n", "abcde", 4, 0);
        dumps("00000000: 6162 6364  abcd\n00000004: 65         e\n", "abcde", 4, 2);
        dumps("00000000: 6162 6364  abcd\n00000004: 6566       ef\n", "abcdef", 4, 2);
        dumps("00000000: 6162 6364  abcd\n00000004: 6566 67    efg\n", "abcdefg", 4, 2);
        dumps("00000000: 6162 63         abc\n", "abc", 6, 2);
        dumps("00000000: 616263     abc\n", "abc", 4, 3);
        dumps("00000000: 6162 6364 65  abcde\n00000005: 6667 68       fgh\n", "abcdefgh", 5, 2);
        dumps("00000000: 4142 4344 4546 4748 494a 4b4c 4d4e 4f50  ABCDEFGHIJKLMNOP\n"
                + "00000010: 5152 53                                  QRS\n", "ABCDEFGHIJKLMNOPQRS", 16, 2);
    }

    private static void digits() {
        byte[] some = Check.bytes(0xab, 0xcd, 0xef, 0, 9, 0xa0);
        CHECK.same("small", dumped(some, 3, 1, false), "00000000: ab cd ef  ...\n00000003: 00 09 a0  ...\n");
        CHECK.same("large", dumped(some, 3, 1, true), "00000000: AB CD EF  ...\n00000003: 00 09 A0  ...\n");
        String small = dumped(new byte[12], 11, 0, false);
        String large = dumped(new byte[12], 11, 0, true);
        CHECK.same("an address of a small digit", small.split("\n")[1].substring(0, 9), "0000000b:");
        CHECK.same("an address of a large digit", large.split("\n")[1].substring(0, 9), "0000000B:");
        CHECK.same("the last address", dumped(new byte[256], 32, 0, false).substring(7 * 109, 7 * 109 + 9), "000000e0:");
    }

    private static void whatCanBeSeen() {
        for (int value = 0; value < 256; value++) {
            char seen = value >= 32 && value <= 126 ? (char) value : '.';
            CHECK.same("byte " + value, dumped(Check.bytes(value), 1, 1, false),
                    String.format("00000000: %02x  %c\n", value, seen));
        }
    }

    private static void allShapes() {
        for (int columns = 1; columns <= 32; columns++) {
            for (int group = 0; group <= columns; group++) {
                for (int many = 0; many <= 2 * columns + 1; many++) {
                    byte[] bytes = Check.mixed(many);
                    CHECK.same("pairs(" + columns + ", " + group + ") of " + many,
                            dumped(bytes, columns, group, false), new PairModel(columns, group).dump(bytes));
                }
            }
        }
    }

    /** The most DATA and one less, in every shape: all of them, or FULL where they are more than ROOM. */
    private static void mostData() {
        for (int columns = 1; columns <= 32; columns++) {
            for (int group = 0; group <= columns; group++) {
                for (int many = 255; many <= 256; many++) {
                    byte[] bytes = Check.mixed(many);
                    String due = new PairModel(columns, group).dump(bytes);
                    String what = "pairs(" + columns + ", " + group + ") of " + many;
                    CHECK.same(what, dumped(bytes, columns, group, false),
                            due.length() <= 2000 ? due : "answer " + FormatDump.FULL + " output ");
                }
            }
        }
        CHECK.same("the last address of all", dumped(new byte[256], 3, 0, true).endsWith("\n000000FF: 00      .\n"), true);
    }

    private static void wrongNumbers() {
        FormatDump x = Check.fed(Check.bytes(1, 2, 3));
        x.words(8, 'o', 1, false);
        String before = Check.stateOf(x);
        int[][] shapes = {{0, 0}, {-1, 0}, {33, 2}, {33, 0}, {4, -1}, {4, 5}, {1, 2}, {32, 33},
            {Integer.MIN_VALUE, 0}, {Integer.MAX_VALUE, 1}, {16, Integer.MIN_VALUE}, {16, Integer.MAX_VALUE}, {0, 1}};
        for (int[] shape : shapes) {
            CHECK.fails("pairs(" + shape[0] + ", " + shape[1] + ")", IllegalArgumentException.class,
                    () -> x.pairs(shape[0], shape[1], true));
        }
        CHECK.same("nothing changed", Check.stateOf(x), before);
        CHECK.same("pairs(32, 32)", x.pairs(32, 32, true), 10 + 64 + 1 + 1 + 3 + 1);
    }
}
