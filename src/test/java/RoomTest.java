/** Promise 7, and what is FULL: room with print, words and pairs. */
public final class RoomTest {
    private static final Check CHECK = new Check();

    public static void main(String[] args) {
        bounds();
        printing();
        firstRoom();
        everyRoom();
        dumping();
        dumpsOfEveryLength();
        CHECK.end();
    }

    private static void bounds() {
        FormatDump x = Check.ready("abc");
        x.print();
        CHECK.fails("room(-1)", IllegalArgumentException.class, () -> x.room(-1));
        CHECK.fails("room(2001)", IllegalArgumentException.class, () -> x.room(2001));
        CHECK.fails("room of the least number", IllegalArgumentException.class, () -> x.room(Integer.MIN_VALUE));
        CHECK.fails("room of the greatest number", IllegalArgumentException.class, () -> x.room(Integer.MAX_VALUE));
        CHECK.same("output stayed", Check.outputOf(x), "abc");
        x.room(2000);
        CHECK.same("room empties the output", x.output(0), -1);
        x.room(0);
        CHECK.same("no room", x.print(), FormatDump.FULL);
        x.erase();
        CHECK.same("nothing fits into no room", x.print(), 0);
    }

    private static void printing() {
        FormatDump x = Check.ready("a%dc", "1x");
        CHECK.same("print", x.print(), 3);
        CHECK.same("odd", x.odd(), 1);
        x.room(3);
        CHECK.same("just room enough", x.print(), 3);
        x.none();
        x.number(10);
        CHECK.same("one too many", x.print(), FormatDump.FULL);
        CHECK.same("output is empty", x.output(0), -1);
        CHECK.same("odd is of the print before", x.odd(), 1);
        CHECK.same("no place", x.place(), -1);
        CHECK.same("the line stayed", x.erase(), 4);
        CHECK.same("the argument stayed", x.none(), 1);
        Check.type(x, "%e");
        CHECK.same("bad", x.print(), FormatDump.BAD);
        CHECK.same("its place", x.place(), 0);
        x.erase();
        Check.type(x, "abcd");
        CHECK.same("full again", x.print(), FormatDump.FULL);
        CHECK.same("a full print has no place", x.place(), -1);
        x.erase();
        Check.type(x, "abcd%");
        CHECK.same("bad goes before full", x.print(), FormatDump.BAD);
        CHECK.same("place of the bad one", x.place(), 4);
    }

    private static void firstRoom() {
        String most = "%*d%*d%*d%*d" + "%99d".repeat(16);
        FormatDump x = Check.ready(most + "%20d", 99, 1, 99, 2, 99, 3, 99, 4);
        CHECK.same("2000 fit", x.print(), 2000);
        CHECK.same("the last of them", x.output(1999), (int) '0');
        FormatDump y = Check.ready(most + "%21d", 99, 1, 99, 2, 99, 3, 99, 4);
        CHECK.same("2001 do not", y.print(), FormatDump.FULL);
        CHECK.same("none of them is there", y.output(0), -1);
        FormatDump z = Check.ready(most + "%b", 99, 1, 99, 2, 99, 3, 99, 4);
        z.room(1979);
        CHECK.same("1980 are more than 1979", z.print(), FormatDump.FULL);
        z.room(1980);
        CHECK.same("1980 fit into 1980", z.print(), 1980);
    }

    /** In every ROOM as many characters fit as it has, and not one more. */
    private static void everyRoom() {
        for (int room = 0; room <= 2000; room++) {
            FormatDump x = new FormatDump();
            x.room(room);
            Whole.fill(x, room);
            CHECK.same("print of " + room, x.print(), room);
            CHECK.same("the last of " + room, x.output(room - 1) != -1, room > 0);
            CHECK.same("behind the last of " + room, x.output(room), -1);
            Whole.fill(x, room + 1);
            CHECK.same("print of one more than " + room, x.print(), FormatDump.FULL);
            CHECK.same("nothing of it", x.output(0), -1);
            CHECK.fails("no character is left of it", IllegalArgumentException.class, () -> x.trim(1));
        }
    }

    /** Dumps of all lengths in the room that they need, and in one less. */
    private static void dumpsOfEveryLength() {
        for (int many = 1; many <= 64; many++) {
            FormatDump x = Check.fed(Check.mixed(many));
            int words = x.words(10, 'd', 4, false);
            int pairs = x.pairs(7, 3, true);
            x.room(words);
            CHECK.same("words of " + many, x.words(10, 'd', 4, false), words);
            x.room(words - 1);
            CHECK.same("words of " + many + " in less", x.words(10, 'd', 4, false), FormatDump.FULL);
            CHECK.same("nothing of the words", x.output(0), -1);
            x.room(pairs);
            CHECK.same("pairs of " + many, x.pairs(7, 3, true), pairs);
            x.room(pairs - 1);
            CHECK.same("pairs of " + many + " in less", x.pairs(7, 3, true), FormatDump.FULL);
            CHECK.same("nothing of the pairs", x.output(0), -1);
        }
        FormatDump none = new FormatDump();
        none.room(0);
        CHECK.same("no data in no room", none.pairs(16, 2, false), 0);
        CHECK.same("no data and no address in no room", none.words(0, 'o', 1, false), 0);
        CHECK.same("an address in no room", none.words(8, 'o', 1, false), FormatDump.FULL);
        none.room(7);
        CHECK.same("an address in room for all but 10", none.words(8, 'o', 1, false), FormatDump.FULL);
        CHECK.same("a shorter address", none.words(16, 'o', 1, false), 7);
        none.room(8);
        CHECK.same("an address in its room", none.words(8, 'o', 1, false), 8);
    }

    private static void dumping() {
        FormatDump x = Check.fed(Check.mixed(16));
        int due = x.pairs(16, 2, false);
        CHECK.same("68 in a line", due, 68);
        x.room(68);
        CHECK.same("pairs fit", x.pairs(16, 2, false), 68);
        x.room(67);
        CHECK.same("pairs do not", x.pairs(16, 2, false), FormatDump.FULL);
        CHECK.same("output is empty behind full pairs", x.output(0), -1);
        x.room(54);
        CHECK.same("words fit into 54", x.words(16, 'x', 2, false), 54);
        x.room(53);
        Check.type(x, "old");
        x.print();
        CHECK.same("words do not", x.words(16, 'x', 2, false), FormatDump.FULL);
        CHECK.same("output is empty behind full words", x.output(0), -1);
        CHECK.same("data stayed", Check.dataOf(x), Check.stringOf(Check.mixed(16)));
        FormatDump y = Check.fed(Check.mixed(256));
        CHECK.same("one column of 256", y.pairs(1, 0, true), FormatDump.FULL);
        y.cut(125);
        CHECK.same("125 lines of 16 are all the room", y.pairs(1, 1, true), 2000);
        Check.feed(y, Check.bytes(1));
        CHECK.same("126 lines of 16 are more", y.pairs(1, 1, true), FormatDump.FULL);
    }
}
