import java.util.function.Consumer;
import java.util.function.Supplier;

/** "A call that throws, or answers a fault, changes nothing else but place", and what every other call changes. */
public final class StateTest {
    private static final Check CHECK = new Check();
    private static final int LEAST = Integer.MIN_VALUE;
    private static final int MOST = Integer.MAX_VALUE;

    private static String stateName;
    private static Supplier<FormatDump> state;
    private static Whole before;

    public static void main(String[] args) {
        in("a new object", FormatDump::new);
        in("an ordinary object", StateTest::ordinary);
        in("a full object", StateTest::full);
        in("an object without room", StateTest::withoutRoom);
        fullBack();
        whatGoodCallsChange();
        objectsShareNothing();
        CHECK.end();
    }

    private static void in(String name, Supplier<FormatDump> made) {
        enter(name, made);
        wrongNumbers();
        wrongShapes();
        tooMuch();
        badPrints();
        fullPrintsAndDumps();
        badBack();
        looking();
    }

    private static void enter(String name, Supplier<FormatDump> made) {
        stateName = name;
        state = made;
        before = Whole.of(made);
    }

    /** Something in every place: odd is 2, place is 3. */
    private static FormatDump ordinary() {
        FormatDump x = Check.ready("000%x,", "1f", 65, "zz", Long.MIN_VALUE);
        Check.feed(x, Check.mixed(37));
        x.room(77);
        x.print();
        x.erase();
        Check.type(x, "[%d]\\n");
        x.back(2, 1);
        return x;
    }

    private static FormatDump full() {
        FormatDump x = new FormatDump();
        Whole.fill(x, 2000);
        x.print();
        Check.feed(x, Check.mixed(256));
        x.erase();
        Check.type(x, "%d".repeat(40));
        return x;
    }

    private static FormatDump withoutRoom() {
        FormatDump x = Check.ready("%d%", "a");
        Check.feed(x, Check.bytes(1, 2, 3));
        x.print();
        x.room(0);
        return x;
    }

    private static FormatDump after(Consumer<FormatDump> call) {
        FormatDump x = state.get();
        try {
            call.accept(x);
        } catch (RuntimeException e) {
            // What it throws is looked at elsewhere; here only what the object holds then.
        }
        return x;
    }

    private static void leaves(String call, Consumer<FormatDump> made, Whole due) {
        CHECK.same(stateName + " behind " + call, Whole.of(() -> after(made)), due);
    }

    private static void refuses(String call, Class<? extends RuntimeException> due, Consumer<FormatDump> made) {
        FormatDump x = state.get();
        CHECK.fails(stateName + ": " + call, due, () -> made.accept(x));
        leaves(call, made, before);
    }

    private static void refusesNumber(String call, Consumer<FormatDump> made) {
        refuses(call, IllegalArgumentException.class, made);
    }

    private static void wrongNumbers() {
        int data = before.data().length();
        int output = before.output().length();
        for (int n : new int[] {-1, 2001, LEAST, MOST}) {
            refusesNumber("room(" + n + ")", x -> x.room(n));
        }
        for (int n : new int[] {-1, 17, LEAST, MOST}) {
            refusesNumber("feed(" + n + ")", x -> x.feed(n, -1, -1, -1, -1));
        }
        for (int n : new int[] {-1, data + 1, LEAST, MOST}) {
            refusesNumber("cut(" + n + ")", x -> x.cut(n));
        }
        for (int n : new int[] {-1, output + 1, LEAST, MOST}) {
            refusesNumber("trim(" + n + ")", x -> x.trim(n));
        }
        for (int k : new int[] {-1, output, LEAST, MOST}) {
            refuses("patch(" + k + ", 1)", IndexOutOfBoundsException.class, x -> x.patch(k, 1));
            refuses("patch(" + k + ", 256)", IndexOutOfBoundsException.class, x -> x.patch(k, 256));
        }
        if (output > 0) {
            for (int to : new int[] {-1, 256, LEAST, MOST}) {
                refusesNumber("patch(0, " + to + ")", x -> x.patch(0, to));
                refusesNumber("patch of the last to " + to, x -> x.patch(output - 1, to));
            }
        }
    }

    private static void wrongShapes() {
        for (int address : new int[] {-1, 1, 7, 9, 11, 15, 17, LEAST, MOST}) {
            refusesNumber("words by address " + address, x -> x.words(address, 'o', 1, false));
        }
        for (int size : new int[] {-1, 0, 3, 5, 7, 9, 16, LEAST, MOST}) {
            refusesNumber("words of size " + size, x -> x.words(8, 'x', size, true));
        }
        for (int size : new int[] {0, 2, 4, 8, LEAST, MOST}) {
            refusesNumber("words of c by " + size, x -> x.words(0, 'c', size, false));
        }
        for (char type : new char[] {0, 'b', 'i', 'X', 'O', 65535}) {
            refusesNumber("words of type " + (int) type, x -> x.words(16, type, 1, false));
        }
        int[][] shapes = {{0, 0}, {-1, 0}, {33, 0}, {33, 33}, {LEAST, 0}, {MOST, 0}, {1, 2}, {1, -1}, {32, 33}, {32, -1},
            {16, LEAST}, {16, MOST}, {LEAST, LEAST}, {MOST, MOST}};
        for (int[] shape : shapes) {
            String name = "(" + shape[0] + ", " + shape[1] + ")";
            refusesNumber("pairs" + name, x -> x.pairs(shape[0], shape[1], true));
            refusesNumber("back" + name, x -> x.back(shape[0], shape[1]));
        }
    }

    private static void tooMuch() {
        int free = 80 - before.line().length();
        int[] w = Check.wordsOf("z".repeat(free % 20 + 1), 6);
        if (free < 20) {
            refuses("type of one too many", IllegalStateException.class, x -> x.type(w[0], w[1], w[2], w[3], w[4]));
        }
        if (before.arguments().startsWith("8:")) {
            refuses("a ninth number", IllegalStateException.class, x -> x.number(Long.MIN_VALUE));
            refuses("a ninth text", IllegalStateException.class, x -> x.text());
        }
        if (before.data().length() == 256) {
            refuses("feed of one too many", IllegalStateException.class, x -> x.feed(1, 0, 0, 0, 0));
            refuses("feed of sixteen too many", IllegalStateException.class, x -> x.feed(16, 0, 0, 0, 0));
        }
    }

    private static void printsBad(String format, int place) {
        Consumer<FormatDump> made = x -> {
            x.erase();
            Check.type(x, format);
            CHECK.same(stateName + ": print of " + format, x.print(), FormatDump.BAD);
        };
        leaves("the bad print of " + format, made, before.withLine(format).withPlace(place));
    }

    private static void badPrints() {
        printsBad("%", 0);
        printsBad("\\", 0);
        printsBad("%d%s%b%y", 6);
        printsBad("x".repeat(79) + "%", 79);
        printsBad("%99d".repeat(19) + "\\q", 76);
    }

    private static void fullPrintsAndDumps() {
        int room = before.room();
        Consumer<FormatDump> tooMany = x -> {
            Whole.fill(x, room + 1);
            CHECK.same(stateName + ": print of one too many", x.print(), FormatDump.FULL);
        };
        Whole filled = Whole.of(() -> after(x -> Whole.fill(x, room + 1)));
        leaves("a full print", tooMany, filled.withOutput("").withPlace(-1));
        if (before.data().length() * 16 > room) {
            leaves("full pairs", x -> CHECK.same(stateName + ": pairs", x.pairs(1, 1, true), FormatDump.FULL),
                    before.withOutput(""));
        }
        if (before.data().length() > 0 && room < 2000) {
            leaves("full words", x -> CHECK.same(stateName + ": words", x.words(8, 'o', 1, true), FormatDump.FULL),
                    before.withOutput(""));
        }
    }

    private static void badBack() {
        int output = before.output().length();
        if (output == 0) {
            return;
        }
        Consumer<FormatDump> patched = x -> x.patch(0, 'q');
        Whole due = before.withOutput("q" + before.output().substring(1)).withPlace(0);
        leaves("a bad back", x -> {
            patched.accept(x);
            CHECK.same(stateName + ": back", x.back(32, 0), FormatDump.BAD);
        }, due);
    }

    /** An OUTPUT that is a dump of 257 bytes, beside other DATA; odd is 1, place is 0. */
    private static FormatDump withLargeDump() {
        FormatDump x = Check.ready("%99d".repeat(12), "q", 1, 2);
        x.room(1500);
        x.print();
        String dump = new PairModel(32, 0).dump(Check.mixed(257));
        x.patch(0, 'q');
        x.back(1, 1);
        for (int k = 0; k < dump.length(); k++) {
            x.patch(k, dump.charAt(k));
        }
        x.trim(dump.length());
        Check.feed(x, Check.bytes(7, 8, 9));
        return x;
    }

    private static void fullBack() {
        enter("an object with a large dump", StateTest::withLargeDump);
        CHECK.same("odd before", before.odd(), 1);
        CHECK.same("place before", before.place(), 0);
        leaves("a full back", x -> CHECK.same("back of 257", x.back(32, 0), FormatDump.FULL), before.withPlace(-1));
    }

    private static void looking() {
        int[] places = {-1, 0, 1, 255, 256, 1999, 2000, LEAST, MOST};
        leaves("looking", x -> {
            for (int k : places) {
                x.output(k);
                x.data(k);
            }
            x.odd();
            x.place();
        }, before);
        leaves("calls of nothing", x -> {
            x.type(0, 0, 0, 0, 0);
            x.feed(0, -1, -1, -1, -1);
            x.cut(before.data().length());
            x.trim(before.output().length());
        }, before);
    }

    private static void whatGoodCallsChange() {
        enter("an ordinary object", StateTest::ordinary);
        Whole b = before;
        CHECK.same("an ordinary object", b, new Whole("[%d]\\n",
                "4: <1f><65><zz><-9223372036854775808> <1><A><z><\0>", Check.stringOf(Check.mixed(37)),
                "0001,00041,0000,0000,", 77, 2, 3));
        leaves("type", x -> Check.typeOnce(x, "qr"), b.withLine("[%d]\\nqr"));
        leaves("erase", x -> x.erase(), b.withLine(""));
        leaves("number", x -> x.number(-3),
                b.withArguments("5: <1f><65><zz><-9223372036854775808><-3> <1><A><z><\0><\u00fd>"));
        leaves("text", x -> x.text(), b.withLine("")
                .withArguments("5: <1f><65><zz><-9223372036854775808><[%d]\\n> <1><A><z><\0><[>"));
        leaves("none", x -> x.none(), b.withArguments("0: <> <>"));
        leaves("room", x -> x.room(5), b.withRoom(5).withOutput(""));
        leaves("the same room", x -> x.room(77), b.withOutput(""));
        leaves("print", x -> x.print(), b.withOutput("[1]\n[65]\n[0]\n[0]\n").withPlace(-1));
        leaves("print without arguments", x -> {
            x.none();
            x.print();
        }, b.withArguments("0: <> <>").withOutput("[0]\n").withOdd(0).withPlace(-1));
        leaves("feed", x -> x.feed(2, 0x41420000, 0, 0, 0), b.withData(b.data() + "AB"));
        leaves("cut", x -> x.cut(3), b.withData(b.data().substring(0, 3)));
        leaves("words", x -> {
            x.cut(2);
            x.words(16, 'x', 2, false);
        }, b.withData("\u000b0").withOutput("000000 300b\n000002\n"));
        leaves("pairs", x -> {
            x.cut(2);
            x.pairs(2, 1, false);
        }, b.withData("\u000b0").withOutput("00000000: 0b 30  .0\n"));
        leaves("back", x -> {
            x.cut(2);
            x.pairs(2, 1, false);
            x.cut(0);
            x.back(2, 1);
        }, b.withData("\u000b0").withOutput("00000000: 0b 30  .0\n").withPlace(-1));
        leaves("patch", x -> x.patch(4, 255), b.withOutput("0001\u00ff00041,0000,0000,"));
        leaves("trim", x -> x.trim(6), b.withOutput("0001,0"));
    }

    private static void objectsShareNothing() {
        FormatDump first = ordinary();
        FormatDump second = full();
        FormatDump third = new FormatDump();
        CHECK.same("the first", Check.stateOf(first), Check.stateOf(ordinary()));
        CHECK.same("the second", Check.stateOf(second), Check.stateOf(full()));
        CHECK.same("the third", Check.stateOf(third), "||0|-1");
        CHECK.same("print of the first", first.print(), 17);
        CHECK.same("print of the second", second.print(), 4 * 3 + 32);
        CHECK.same("print of the third", third.print(), 0);
    }
}
