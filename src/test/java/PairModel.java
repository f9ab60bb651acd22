import java.util.Arrays;

/** DUMPING by PAIRS written once more, from the places at which the characters of a line stand. */
final class PairModel {
    private final int columns;
    private final int group;

    PairModel(int columns, int group) {
        this.columns = columns;
        this.group = group == 0 ? columns : group;
    }

    String dump(byte[] bytes) {
        StringBuilder made = new StringBuilder();
        for (int start = 0; start < bytes.length; start += columns) {
            made.append(line(start, Arrays.copyOfRange(bytes, start, Math.min(start + columns, bytes.length))));
        }
        return made.toString();
    }

    private int placeOf(int k) {
        return 10 + 2 * k + k / group;
    }

    private String line(int address, byte[] bytes) {
        int groups = (columns + group - 1) / group;
        char[] made = new char[10 + 2 * columns + groups + 1 + bytes.length + 1];
        Arrays.fill(made, ' ');
        String.format("%08x:", address).getChars(0, 9, made, 0);
        for (int k = 0; k < bytes.length; k++) {
            int value = bytes[k] & 255;
            String.format("%02x", value).getChars(0, 2, made, placeOf(k));
            made[made.length - 1 - bytes.length + k] = value >= 32 && value <= 126 ? (char) value : '.';
        }
        made[made.length - 1] = '\n';
        return new String(made);
    }

    /** The first place at which nothing that begins so can be a dump; -1 if all of it is one. */
    int badPlace(String output) {
        int start = 0;
        int address = 0;
        while (start < output.length()) {
            int end = output.indexOf('\n', start);
            String line = output.substring(start, end < 0 ? output.length() : end + 1);
            int good = 0;
            int whole = -1;
            for (int many = 1; many <= columns; many++) {
                String like = lineLike(line, address, many);
                good = Math.max(good, common(line, like));
                whole = line.equalsIgnoreCase(like) && common(line, like) == like.length() ? many : whole;
            }
            if (whole < 0) {
                return start + good;
            }
            start += line.length();
            address += whole;
            if (whole < columns && start < output.length()) {
                return start;
            }
        }
        return -1;
    }

    /** The line of so many bytes that has the same digits as this one, where it has any. */
    private String lineLike(String line, int address, int many) {
        byte[] bytes = new byte[many];
        for (int k = 0; k < many; k++) {
            int high = digitAt(line, placeOf(k));
            int low = digitAt(line, placeOf(k) + 1);
            bytes[k] = (byte) (Math.max(0, high) * 16 + Math.max(0, low));
        }
        return line(address, bytes);
    }

    private static int digitAt(String line, int k) {
        return k < line.length() && line.charAt(k) < 128 ? Character.digit(line.charAt(k), 16) : -1;
    }

    /** How many characters at the front of both are the same, a digit large or small in front of the blanks. */
    private int common(String line, String like) {
        int digitsEnd = placeOf(columns - 1) + 2;
        int k = 0;
        while (k < line.length() && k < like.length()) {
            boolean same = line.charAt(k) == like.charAt(k)
                    || (k < digitsEnd && digitAt(line, k) >= 10 && digitAt(line, k) == digitAt(like, k));
            if (!same) {
                return k;
            }
            k++;
        }
        return k;
    }
}
