import java.util.Objects;

/** What the tests share: comparing, typing, feeding, and seeing the state of an object. */
final class Check {
    private int done;
    private int wrong;

    void same(String what, Object got, Object due) {
        done++;
        if (!Objects.equals(got, due)) {
            wrong++;
            System.out.println(what + " answered " + shown(got) + ", due is " + shown(due));
        }
    }

    void fails(String what, Class<? extends RuntimeException> due, Runnable call) {
        Class<?> got = null;
        try {
            call.run();
        } catch (RuntimeException e) {
            got = e.getClass();
        }
        same(what + " throws", got, due);
    }

    void end() {
        System.out.println(wrong + " of " + done + " answers are wrong");
        if (wrong != 0) {
            System.exit(1);
        }
    }

    static int[] wordsOf(String characters, int words) {
        int[] made = new int[words];
        for (int k = 0; k < characters.length(); k++) {
            made[k / 4] |= characters.charAt(k) << (24 - 8 * (k % 4));
        }
        return made;
    }

    /** Types up to twenty characters in one call. */
    static int typeOnce(FormatDump x, String characters) {
        int[] w = wordsOf(characters, 5);
        return x.type(w[0], w[1], w[2], w[3], w[4]);
    }

    static void type(FormatDump x, String characters) {
        for (int k = 0; k < characters.length(); k += 20) {
            typeOnce(x, characters.substring(k, Math.min(k + 20, characters.length())));
        }
    }

    /** A Long becomes a number, a String a text, in their order. */
    static void arguments(FormatDump x, Object... values) {
        for (Object value : values) {
            if (value instanceof String) {
                type(x, (String) value);
                x.text();
            } else {
                x.number(((Number) value).longValue());
            }
        }
    }

    /** A new object with these arguments and this format as THE LINE. */
    static FormatDump ready(String format, Object... values) {
        FormatDump x = new FormatDump();
        arguments(x, values);
        type(x, format);
        return x;
    }

    static void feed(FormatDump x, byte[] bytes) {
        for (int k = 0; k < bytes.length; k += 16) {
            int many = Math.min(16, bytes.length - k);
            int[] w = new int[4];
            for (int j = 0; j < many; j++) {
                w[j / 4] |= (bytes[k + j] & 255) << (24 - 8 * (j % 4));
            }
            x.feed(many, w[0], w[1], w[2], w[3]);
        }
    }

    static FormatDump fed(byte[] bytes) {
        FormatDump x = new FormatDump();
        feed(x, bytes);
        return x;
    }

    /** Bytes that look different everywhere, with all values among them if there are 256. */
    static byte[] mixed(int many) {
        byte[] made = new byte[many];
        for (int k = 0; k < many; k++) {
            made[k] = (byte) (k * 37 + 11);
        }
        return made;
    }

    static byte[] bytes(int... values) {
        byte[] made = new byte[values.length];
        for (int k = 0; k < values.length; k++) {
            made[k] = (byte) values[k];
        }
        return made;
    }

    static byte[] bytesOf(String characters) {
        byte[] made = new byte[characters.length()];
        for (int k = 0; k < made.length; k++) {
            made[k] = (byte) characters.charAt(k);
        }
        return made;
    }

    static String outputOf(FormatDump x) {
        StringBuilder all = new StringBuilder();
        for (int k = 0; x.output(k) != FormatDump.NONE; k++) {
            all.append((char) x.output(k));
        }
        return all.toString();
    }

    static String dataOf(FormatDump x) {
        StringBuilder all = new StringBuilder();
        for (int k = 0; x.data(k) != FormatDump.NONE; k++) {
            all.append((char) x.data(k));
        }
        return all.toString();
    }

    static String stringOf(byte[] bytes) {
        StringBuilder all = new StringBuilder();
        for (byte b : bytes) {
            all.append((char) (b & 255));
        }
        return all.toString();
    }

    /** All that can be seen of an object without changing it. */
    static String stateOf(FormatDump x) {
        return outputOf(x) + "|" + dataOf(x) + "|" + x.odd() + "|" + x.place();
    }

    /** Prints and answers what THE OUTPUT is then, with the fault in front if there was one. */
    static String printed(String format, Object... values) {
        FormatDump x = ready(format, values);
        int answer = x.print();
        String output = outputOf(x);
        if (answer == output.length()) {
            return output;
        }
        return "answer " + answer + " place " + x.place() + " output " + output;
    }

    private static String shown(Object value) {
        if (!(value instanceof String)) {
            return String.valueOf(value);
        }
        StringBuilder all = new StringBuilder("\"");
        for (char c : ((String) value).toCharArray()) {
            all.append(c >= 32 && c < 127 ? String.valueOf(c) : "<" + (int) c + ">");
        }
        return all.append("\"").toString();
    }
}
