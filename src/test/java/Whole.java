import java.util.function.Supplier;

/** All that an object holds; what its face does not show is seen by using up objects made alike. */
record Whole(String line, String arguments, String data, String output, int room, int odd, int place) {
    static Whole of(Supplier<FormatDump> maker) {
        FormatDump seen = maker.get();
        return new Whole(lineOf(maker.get()), argumentsOf(maker.get()), Check.dataOf(seen), Check.outputOf(seen),
                roomOf(maker.get()), seen.odd(), seen.place());
    }

    Whole withLine(String other) {
        return new Whole(other, arguments, data, output, room, odd, place);
    }

    Whole withArguments(String other) {
        return new Whole(line, other, data, output, room, odd, place);
    }

    Whole withData(String other) {
        return new Whole(line, arguments, other, output, room, odd, place);
    }

    Whole withOutput(String other) {
        return new Whole(line, arguments, data, other, room, odd, place);
    }

    Whole withRoom(int other) {
        return new Whole(line, arguments, data, output, other, odd, place);
    }

    Whole withOdd(int other) {
        return new Whole(line, arguments, data, output, room, other, place);
    }

    Whole withPlace(int other) {
        return new Whole(line, arguments, data, output, room, odd, other);
    }

    private static String lineOf(FormatDump x) {
        x.none();
        x.text();
        return printed(x, "%s");
    }

    /** As texts and as characters, for a number and the text of its digits to be told apart. */
    private static String argumentsOf(FormatDump x) {
        String texts = printed(x, "<%s>");
        String characters = printed(x, "<%c>");
        return x.none() + ": " + texts + " " + characters;
    }

    private static String printed(FormatDump x, String format) {
        x.erase();
        x.room(2000);
        Check.type(x, format);
        x.print();
        return Check.outputOf(x);
    }

    private static int roomOf(FormatDump x) {
        int most = 0;
        int tooMany = 2001;
        while (tooMany - most > 1) {
            int middle = (most + tooMany) / 2;
            if (fits(x, middle)) {
                most = middle;
            } else {
                tooMany = middle;
            }
        }
        return most;
    }

    private static boolean fits(FormatDump x, int many) {
        fill(x, many);
        return x.print() == many;
    }

    /** Makes a LINE and ARGUMENTS that print so many characters, up to 2001. */
    static void fill(FormatDump x, int many) {
        int rest = many;
        StringBuilder format = new StringBuilder();
        x.erase();
        x.none();
        // A width from an ARGUMENT is shorter to write; without these THE LINE ends at 1980.
        if (many > 1900) {
            Check.arguments(x, 99, 0, 99, 0, 99, 0, 99, 0);
            format.append("%*d%*d%*d%*d");
            rest -= 4 * 99;
        }
        format.append("%99d".repeat(rest / 99));
        if (rest % 99 != 0) {
            format.append("%" + rest % 99 + "d");
        }
        Check.type(x, format.toString());
    }
}
