import java.math.BigInteger;

/** Promise 12: words. */
public final class WordsTest {
    private static final Check CHECK = new Check();

    public static void main(String[] args) {
        fields();
        characters();
        addresses();
        lackingBytes();
        repeats();
        allSizes();
        allLengths();
        leastAndGreatest();
        linesAlmostAlike();
        runsOfLines();
        dumpAnew();
        wrongNumbers();
        CHECK.end();
    }

    private static String dumped(byte[] bytes, int address, char type, int size, boolean all) {
        FormatDump x = Check.fed(bytes);
        int answer = x.words(address, type, size, all);
        String output = Check.outputOf(x);
        return answer == output.length() ? output : "answer " + answer + " output " + output;
    }

    private static void dumps(String due, byte[] bytes, int address, char type, int size, boolean all) {
        CHECK.same("words(" + address + ", " + type + ", " + size + ", " + all + ")",
                dumped(bytes, address, type, size, all), due);
    }

    private static void fields() {
        byte[] few = Check.bytes(0, 1, 0x7f, 0x80, 0xff, 0xff, 0xff, 0xff);
        dumps(" 000 001 177 200 377 377 377 377\n", few, 0, 'o', 1, false);
        dumps(" 000400 100177 177777 177777\n", few, 0, 'o', 2, false);
        dumps(" 20037600400 37777777777\n", few, 0, 'o', 4, false);
        dumps(" 1777777777760037600400\n", few, 0, 'o', 8, false);
        dumps(" 00 01 7f 80 ff ff ff ff\n", few, 0, 'x', 1, false);
        dumps(" 0100 807f ffff ffff\n", few, 0, 'x', 2, false);
        dumps(" 807f0100 ffffffff\n", few, 0, 'x', 4, false);
        dumps(" ffffffff807f0100\n", few, 0, 'x', 8, false);
        dumps("   0   1 127 128 255 255 255 255\n", few, 0, 'u', 1, false);
        dumps("   256 32895 65535 65535\n", few, 0, 'u', 2, false);
        dumps(" 2155806976 4294967295\n", few, 0, 'u', 4, false);
        dumps(" 18446744071570391296\n", few, 0, 'u', 8, false);
        dumps("    0    1  127 -128   -1   -1   -1   -1\n", few, 0, 'd', 1, false);
        dumps("    256 -32641     -1     -1\n", few, 0, 'd', 2, false);
        dumps(" -2139160320          -1\n", few, 0, 'd', 4, false);
        dumps("          -2139160320\n", few, 0, 'd', 8, false);
        byte[] least = Check.bytes(0, 0, 0, 0, 0, 0, 0, 0x80);
        dumps(" -9223372036854775808\n", least, 0, 'd', 8, false);
        dumps("  9223372036854775808\n", least, 0, 'u', 8, false);
        dumps("                    0\n", new byte[8], 0, 'u', 8, false);
        dumps(" 0000000000000000000000\n", new byte[8], 0, 'o', 8, false);
        dumps(" 0000000000000000\n", new byte[8], 0, 'x', 8, false);
    }

    private static void characters() {
        StringBuilder due = new StringBuilder();
        String[] names = {"\\0", "001", "002", "003", "004", "005", "006", "\\a",
            "\\b", "\\t", "\\n", "\\v", "\\f", "\\r", "016", "017"};
        byte[] all = new byte[256];
        for (int k = 0; k < 256; k++) {
            all[k] = (byte) k;
            String field = Integer.toOctalString(k);
            if (k < 16) {
                field = names[k];
            } else if (k < 32) {
                field = "0" + field;
            } else if (k < 127) {
                field = "  " + (char) k;
            }
            due.append(String.format(" %3s", field));
            due.append(k % 16 == 15 ? "\n" : "");
        }
        dumps(due.toString(), all, 0, 'c', 1, false);
    }

    private static void addresses() {
        byte[] bytes = Check.mixed(33);
        String[] lines = dumped(bytes, 0, 'x', 1, false).split("\n");
        dumps("0000000" + lines[0] + "\n0000020" + lines[1] + "\n0000040" + lines[2] + "\n0000041\n",
                bytes, 8, 'x', 1, false);
        dumps("0000000" + lines[0] + "\n0000016" + lines[1] + "\n0000032" + lines[2] + "\n0000033\n",
                bytes, 10, 'x', 1, false);
        dumps("000000" + lines[0] + "\n000010" + lines[1] + "\n000020" + lines[2] + "\n000021\n",
                bytes, 16, 'x', 1, false);
        dumps("0000000\n", new byte[0], 8, 'o', 1, false);
        dumps("0000000\n", new byte[0], 10, 'o', 1, false);
        dumps("000000\n", new byte[0], 16, 'o', 1, false);
        dumps("", new byte[0], 0, 'o', 1, true);
        CHECK.same("the last address in base 8", dumped(new byte[256], 8, 'o', 8, false).endsWith("\n*\n0000400\n"), true);
        CHECK.same("the last address in base 16", dumped(new byte[256], 16, 'o', 8, false).endsWith("\n*\n000100\n"), true);
        CHECK.same("an address of letters", dumped(Check.mixed(180), 16, 'x', 8, false).contains("\n0000a0 "), true);
    }

    private static void lackingBytes() {
        byte[] three = Check.bytes(1, 2, 0xff);
        dumps("000000 0201 00ff\n000003\n", three, 16, 'x', 2, false);
        dumps("000000 00ff0201\n000003\n", three, 16, 'x', 4, false);
        dumps("000000 0000000000ff0201\n000003\n", three, 16, 'x', 8, false);
        dumps("000000    513    255\n000003\n", three, 16, 'd', 2, false);
        dumps("000000    16712193\n000003\n", three, 16, 'd', 4, false);
        FormatDump x = Check.fed(Check.mixed(64));
        x.cut(3);
        x.words(0, 'x', 8, false);
        CHECK.same("what was cut is 0", Check.outputOf(x).substring(1, 11), "0000000000");
    }

    private static void repeats() {
        byte[] same = new byte[16 * 5 + 15];
        dumps("000000 0000000000000000 0000000000000000\n*\n000050 0000000000000000 0000000000000000\n00005f\n",
                same, 16, 'x', 8, false);
        CHECK.same("all is wanted", dumped(same, 16, 'x', 8, true).length(), 6 * 41 + 7);
        dumps(" 0000000000000000 0000000000000000\n*\n", new byte[32], 0, 'x', 8, false);
        dumps(" 0000000000000000 0000000000000000\n", new byte[16], 0, 'x', 8, false);
        byte[] mixed = new byte[16 * 7];
        mixed[16 * 3 + 15] = 1;
        mixed[16 * 4] = 2;
        String zero = " 0000000000000000 0000000000000000\n";
        dumps(zero + "*\n" + " 0000000000000000 0100000000000000\n" + " 0000000000000002 0000000000000000\n"
                + zero + "*\n", mixed, 0, 'x', 8, false);
        byte[] turns = new byte[16 * 4];
        turns[16] = 1;
        turns[48] = 1;
        String one = " 0000000000000001 0000000000000000\n";
        dumps(zero + one + zero + one, turns, 0, 'x', 8, false);
        byte[] twice = new byte[16 * 6];
        for (int k = 16 * 3; k < twice.length; k += 16) {
            twice[k] = 1;
        }
        dumps(zero + "*\n" + one + "*\n", twice, 0, 'x', 8, false);
    }

    private static void allSizes() {
        char[] types = {'o', 'x', 'u', 'd'};
        int[] sizes = {1, 2, 4, 8};
        int[][] widths = {{3, 6, 11, 22}, {2, 4, 8, 16}, {3, 5, 10, 20}, {4, 6, 11, 20}};
        for (int t = 0; t < 4; t++) {
            for (int s = 0; s < 4; s++) {
                for (int many = 0; many <= 48; many++) {
                    int words = (many + sizes[s] - 1) / sizes[s];
                    int lines = (many + 15) / 16;
                    int due = lines * 8 + words * (widths[t][s] + 1) + 8;
                    CHECK.same("length of " + many + " by " + types[t] + sizes[s],
                            dumped(Check.mixed(many), 8, types[t], sizes[s], false).length(), due);
                }
            }
        }
    }

    /** DUMPING by words written once more. */
    private static String model(byte[] bytes, int address, char type, int size, boolean all) {
        StringBuilder made = new StringBuilder();
        String addressFormat = address == 8 ? "%07o" : address == 10 ? "%07d" : address == 16 ? "%06x" : "";
        String data = Check.stringOf(bytes);
        String before = "";
        boolean starred = false;
        for (int start = 0; start < bytes.length; start += 16) {
            String part = data.substring(start, Math.min(start + 16, data.length()));
            if (!all && part.length() == 16 && part.equals(before)) {
                made.append(starred ? "" : "*\n");
                starred = true;
                continue;
            }
            starred = false;
            before = part;
            made.append(String.format(addressFormat, start));
            for (int k = 0; k < part.length(); k += size) {
                String word = (part + "\0".repeat(8)).substring(k, k + size);
                made.append(' ').append(field(new StringBuilder(word).reverse().toString(), type));
            }
            made.append('\n');
        }
        return made + String.format(addressFormat, bytes.length) + (address == 0 ? "" : "\n");
    }

    private static String field(String highestFirst, char type) {
        int size = highestFirst.length();
        byte[] bytes = Check.bytesOf(highestFirst);
        BigInteger plain = new BigInteger(1, bytes);
        int column = size == 1 ? 0 : size == 2 ? 1 : size == 4 ? 2 : 3;
        switch (type) {
            case 'o': return filled(plain.toString(8), '0', new int[] {3, 6, 11, 22}[column]);
            case 'x': return filled(plain.toString(16), '0', new int[] {2, 4, 8, 16}[column]);
            case 'u': return filled(plain.toString(), ' ', new int[] {3, 5, 10, 20}[column]);
            default: return filled(new BigInteger(bytes).toString(), ' ', new int[] {4, 6, 11, 20}[column]);
        }
    }

    private static String filled(String digits, char with, int width) {
        return String.valueOf(with).repeat(width - digits.length()) + digits;
    }

    private static void likeModel(byte[] bytes, boolean all) {
        for (int address : new int[] {0, 8, 10, 16}) {
            for (char type : new char[] {'o', 'x', 'u', 'd'}) {
                for (int size = 1; size <= 8; size *= 2) {
                    dumps(model(bytes, address, type, size, all), bytes, address, type, size, all);
                }
            }
        }
    }

    /** Every number of DATA, with its lines that are not full and its words that lack bytes. */
    private static void allLengths() {
        for (int many = 0; many <= 256; many++) {
            likeModel(Check.mixed(many), many % 2 == 0);
        }
    }

    /** Words of one byte repeated, and the least and the greatest with a sign. */
    private static void leastAndGreatest() {
        for (int size = 1; size <= 8; size *= 2) {
            for (int value : new int[] {0, 1, 0x7f, 0x80, 0xff}) {
                byte[] bytes = new byte[5 * size];
                for (int k = 0; k < size; k++) {
                    bytes[k] = (byte) value;
                    bytes[2 * size + k] = (byte) (k == size - 1 ? value : 0);
                    bytes[3 * size + k] = (byte) (k == size - 1 ? value : 0xff);
                    bytes[4 * size + k] = (byte) (k == 0 ? value : 0);
                }
                likeModel(bytes, true);
            }
        }
        dumps(" -128  127   -1\n", Check.bytes(0x80, 0x7f, 0xff), 0, 'd', 1, false);
        dumps(" -32768  32767     -1\n", Check.bytes(0, 0x80, 0xff, 0x7f, 0xff, 0xff), 0, 'd', 2, false);
        dumps(" -2147483648  2147483647          -1\n",
                Check.bytes(0, 0, 0, 0x80, 0xff, 0xff, 0xff, 0x7f, 0xff, 0xff, 0xff, 0xff), 0, 'd', 4, false);
        byte[] eights = Check.bytes(0, 0, 0, 0, 0, 0, 0, 0x80, 0xff, 0xff, 0xff, 0xff, 0xff, 0xff, 0xff, 0x7f);
        dumps(" -9223372036854775808  9223372036854775807\n", eights, 0, 'd', 8, false);
        dumps("  9223372036854775808  9223372036854775807\n", eights, 0, 'u', 8, false);
        byte[] ones = Check.bytes(255, 255, 255, 255, 255, 255, 255, 255);
        dumps(" 18446744073709551615\n", ones, 0, 'u', 8, false);
        dumps("                   -1\n", ones, 0, 'd', 8, false);
        dumps(" 1777777777777777777777\n", ones, 0, 'o', 8, false);
        dumps(" 255\n", Check.bytes(255), 0, 'u', 1, false);
        dumps("   255\n", Check.bytes(255), 0, 'u', 2, false);
        dumps("        255\n", Check.bytes(255), 0, 'u', 4, false);
        dumps("                  255\n", Check.bytes(255), 0, 'd', 8, false);
        dumps("   -1\n", Check.bytes(255), 0, 'd', 1, false);
        dumps("    255\n", Check.bytes(255), 0, 'd', 2, false);
    }

    /** A line is like the one before only if all sixteen bytes are. */
    private static void linesAlmostAlike() {
        for (int k = 0; k < 48; k++) {
            byte[] bytes = new byte[48];
            bytes[k] = 1;
            likeModel(bytes, false);
            boolean alike = k < 16 || k >= 32;
            CHECK.same("a * with another byte at " + k, dumped(bytes, 0, 'x', 1, false).contains("*\n"), alike);
        }
        for (int many = 17; many <= 33; many++) {
            CHECK.same("a * in " + many, dumped(new byte[many], 8, 'o', 2, false).contains("*"), many >= 32);
            CHECK.same("no * in " + many + " where all is wanted",
                    dumped(new byte[many], 8, 'o', 2, true).contains("*"), false);
        }
    }

    /** Two sorts of lines in every order of six: with one * for each run, whatever its length. */
    private static void runsOfLines() {
        for (int order = 0; order < 64; order++) {
            for (int rest = 0; rest < 16; rest += 5) {
                byte[] bytes = new byte[6 * 16 + rest];
                for (int k = 0; k < 96; k++) {
                    bytes[k] = (byte) ((order >> (k / 16) & 1) * 7);
                }
                dumps(model(bytes, 8, 'o', 4, false), bytes, 8, 'o', 4, false);
                dumps(model(bytes, 0, 'x', 1, true), bytes, 0, 'x', 1, true);
            }
        }
        dumps(" 0000000000000000 0000000000000000\n*\n", new byte[256], 0, 'x', 8, false);
    }

    private static void dumpAnew() {
        FormatDump x = Check.fed(Check.bytes(1, 2));
        CHECK.same("first", x.words(8, 'o', 1, false), 24);
        CHECK.same("second", x.words(16, 'x', 2, true), 19);
        CHECK.same("only the second", Check.outputOf(x), "000000 0201\n000002\n");
        CHECK.same("data stay", Check.dataOf(x), "\1\2");
        CHECK.same("pairs", x.pairs(2, 0, true), 19);
        CHECK.same("only the pairs", Check.outputOf(x), "00000000: 0102  ..\n");
    }

    private static void wrongNumbers() {
        FormatDump x = Check.fed(Check.bytes(1, 2, 3));
        x.pairs(3, 1, false);
        String before = Check.stateOf(x);
        int[] addresses = {-1, 1, 2, 7, 9, 15, 17, 64, Integer.MIN_VALUE, Integer.MAX_VALUE};
        for (int address : addresses) {
            CHECK.fails("address " + address, IllegalArgumentException.class, () -> x.words(address, 'o', 1, false));
        }
        int[] sizes = {-8, -1, 0, 3, 5, 6, 7, 9, 16, Integer.MIN_VALUE};
        for (int size : sizes) {
            CHECK.fails("size " + size, IllegalArgumentException.class, () -> x.words(8, 'o', size, false));
            CHECK.fails("size of c " + size, IllegalArgumentException.class, () -> x.words(8, 'c', size, false));
        }
        CHECK.fails("c by 2", IllegalArgumentException.class, () -> x.words(8, 'c', 2, false));
        CHECK.fails("c by 8", IllegalArgumentException.class, () -> x.words(8, 'c', 8, false));
        for (char type : "aOXDUCibs\0 8\uffff\u016f".toCharArray()) {
            CHECK.fails("type " + (int) type, IllegalArgumentException.class, () -> x.words(8, type, 1, false));
        }
        CHECK.same("nothing changed", Check.stateOf(x), before);
    }
}
