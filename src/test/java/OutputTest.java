/** Promises 15 to 18: patch, trim, place and output. */
public final class OutputTest {
    private static final Check CHECK = new Check();

    public static void main(String[] args) {
        patching();
        patchingEnds();
        trimming();
        trimmingFull();
        placing();
        placesOfEveryFault();
        seeing();
        CHECK.end();
    }

    private static FormatDump with(String output) {
        FormatDump x = Check.ready(output);
        x.print();
        return x;
    }

    private static void patching() {
        FormatDump x = with("abc");
        CHECK.same("patch(1)", x.patch(1, 'X'), (int) 'b');
        CHECK.same("patch again", x.patch(1, 0), (int) 'X');
        CHECK.same("patch to 255", x.patch(2, 255), (int) 'c');
        CHECK.same("patched", Check.outputOf(x), "a\0\u00ff");
        CHECK.fails("patch(-1)", IndexOutOfBoundsException.class, () -> x.patch(-1, 1));
        CHECK.fails("patch(3)", IndexOutOfBoundsException.class, () -> x.patch(3, 1));
        CHECK.fails("patch(3) to 256", IndexOutOfBoundsException.class, () -> x.patch(3, 256));
        CHECK.fails("patch to -1", IllegalArgumentException.class, () -> x.patch(0, -1));
        CHECK.fails("patch to 256", IllegalArgumentException.class, () -> x.patch(0, 256));
        CHECK.same("nothing changed", Check.outputOf(x), "a\0\u00ff");
        x.trim(1);
        CHECK.fails("patch of what was trimmed", IndexOutOfBoundsException.class, () -> x.patch(1, 1));
        CHECK.fails("patch of nothing", IndexOutOfBoundsException.class, () -> new FormatDump().patch(0, 1));
        x.print();
        CHECK.same("the line was not patched", Check.outputOf(x), "abc");
    }

    /** The first and the last character of the shortest and of the longest OUTPUT, to the least and the greatest. */
    private static void patchingEnds() {
        for (int many : new int[] {1, 2, 1999, 2000}) {
            FormatDump x = new FormatDump();
            Whole.fill(x, many);
            x.print();
            for (int k : new int[] {0, many - 1}) {
                int first = x.output(k);
                CHECK.same("patch(" + k + ") of " + many, x.patch(k, 0), first);
                CHECK.same("patch to 255", x.patch(k, 255), 0);
                CHECK.same("255", x.output(k), 255);
                CHECK.fails("patch to 256", IllegalArgumentException.class, () -> x.patch(k, 256));
                CHECK.fails("patch to -1", IllegalArgumentException.class, () -> x.patch(k, -1));
                CHECK.same("255 still", x.patch(k, first), 255);
            }
            CHECK.fails("patch(" + many + ")", IndexOutOfBoundsException.class, () -> x.patch(many, 0));
            CHECK.fails("patch(-1)", IndexOutOfBoundsException.class, () -> x.patch(-1, 0));
            CHECK.same("as many as before", x.trim(0), many);
            CHECK.fails("patch of none", IndexOutOfBoundsException.class, () -> x.patch(0, 0));
        }
    }

    private static void trimmingFull() {
        for (int n : new int[] {0, 1, 999, 1999, 2000}) {
            FormatDump x = new FormatDump();
            Whole.fill(x, 2000);
            x.print();
            CHECK.fails("trim(2001) of 2000", IllegalArgumentException.class, () -> x.trim(2001));
            CHECK.same("trim(" + n + ") of 2000", x.trim(n), 2000 - n);
            CHECK.same("behind the first " + n, x.output(n), -1);
            CHECK.same("the last that stays", x.output(n - 1) == -1, n == 0);
            CHECK.fails("trim of one more", IllegalArgumentException.class, () -> x.trim(n + 1));
        }
        FormatDump x = new FormatDump();
        CHECK.same("trim(0) of nothing", x.trim(0), 0);
        CHECK.fails("trim of the least", IllegalArgumentException.class, () -> x.trim(Integer.MIN_VALUE));
        CHECK.fails("trim of the greatest", IllegalArgumentException.class, () -> x.trim(Integer.MAX_VALUE));
    }

    /** A fault at every place of THE LINE, of both kinds. */
    private static void placesOfEveryFault() {
        for (int k = 0; k < 80; k++) {
            for (String bad : new String[] {"%", "\\"}) {
                FormatDump x = Check.ready("x".repeat(k) + bad + (k < 79 ? "q" : ""));
                CHECK.same("bad at " + k, x.print(), FormatDump.BAD);
                CHECK.same("place " + k, x.place(), k);
            }
        }
    }

    private static void trimming() {
        FormatDump x = with("abcdef");
        CHECK.fails("trim(-1)", IllegalArgumentException.class, () -> x.trim(-1));
        CHECK.fails("trim(7)", IllegalArgumentException.class, () -> x.trim(7));
        CHECK.same("nothing is gone", Check.outputOf(x), "abcdef");
        CHECK.same("trim(6)", x.trim(6), 0);
        CHECK.same("trim(2)", x.trim(2), 4);
        CHECK.same("two stay", Check.outputOf(x), "ab");
        CHECK.same("output(2)", x.output(2), -1);
        CHECK.fails("trim(3) of two", IllegalArgumentException.class, () -> x.trim(3));
        CHECK.same("trim(0)", x.trim(0), 2);
        CHECK.same("no output", x.output(0), -1);
        CHECK.same("room is as before", x.print(), 6);
    }

    private static void placing() {
        FormatDump x = Check.ready("abc%");
        CHECK.same("before any", x.place(), -1);
        x.print();
        CHECK.same("a bad print", x.place(), 3);
        x.words(8, 'o', 1, false);
        x.pairs(4, 1, false);
        x.erase();
        x.room(100);
        CHECK.same("other calls leave it", x.place(), 3);
        CHECK.fails("a back that throws", IllegalArgumentException.class, () -> x.back(0, 0));
        CHECK.same("leaves it too", x.place(), 3);
        CHECK.same("a good back", x.back(4, 1), 0);
        CHECK.same("takes it away", x.place(), -1);
        Check.type(x, "0x");
        x.print();
        CHECK.same("a bad back", x.back(4, 1), FormatDump.BAD);
        CHECK.same("has a place", x.place(), 1);
        x.print();
        CHECK.same("a good print takes it away", x.place(), -1);
        Check.type(x, "\\");
        x.print();
        CHECK.same("bad again", x.place(), 2);
        x.erase();
        x.room(1);
        Check.type(x, "ab");
        CHECK.same("a full print", x.print(), FormatDump.FULL);
        CHECK.same("takes it away too", x.place(), -1);
    }

    private static void seeing() {
        FormatDump x = with("a\\0\\377");
        CHECK.same("output(0)", x.output(0), (int) 'a');
        CHECK.same("output(1)", x.output(1), 0);
        CHECK.same("output(2)", x.output(2), 255);
        CHECK.same("output(3)", x.output(3), -1);
        CHECK.same("output(-1)", x.output(-1), -1);
        CHECK.same("output of the least", x.output(Integer.MIN_VALUE), -1);
        CHECK.same("output of the most", x.output(Integer.MAX_VALUE), -1);
        CHECK.same("output(2000)", x.output(2000), -1);
    }
}
