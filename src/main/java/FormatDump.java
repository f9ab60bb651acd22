/**
 * Formats and dumps of bytes: a format is printed with numbers and texts, bytes are dumped
 * by words or in hexadecimal pairs, and a dump in pairs is read back.
 */
public final class FormatDump {
    public static final int NONE = -1;
    public static final int BAD = -2;
    public static final int FULL = -3;

    private static final int LINE_MOST = 80;
    private static final int ARGUMENTS_MOST = 8;
    private static final int DATA_MOST = 256;
    private static final int ROOM_MOST = 2000;
    private static final int COLUMNS_MOST = 32;
    private static final int STAR_MOST = 99;
    private static final int WORDS_LINE = 16;
    private static final int FIGURES_MOST = 22;
    private static final int NEWLINE = 10;

    private final Row line;
    private final Row page;
    private final Row bytes;
    private final Arguments arguments;
    private final Printer printer;
    private final WordDump wordDump;
    private final PairDump pairDump;
    private final PairReader pairReader;
    private int faultPlace;
    private int oddTexts;

    public FormatDump() {
        Figures figures = new Figures();
        line = new Row(LINE_MOST);
        page = new Row(ROOM_MOST);
        bytes = new Row(DATA_MOST);
        arguments = new Arguments();
        printer = new Printer(page, arguments, figures);
        wordDump = new WordDump(page, bytes, figures);
        pairDump = new PairDump(page, bytes, figures);
        pairReader = new PairReader(page);
        faultPlace = NONE;
        oddTexts = 0;
    }

    public int type(int a, int b, int c, int d, int e) throws IllegalStateException {
        int more = charactersIn(a) + charactersIn(b) + charactersIn(c) + charactersIn(d) + charactersIn(e);
        if (line.size() + more > LINE_MOST) {
            throw new IllegalStateException();
        }
        typeWord(a);
        typeWord(b);
        typeWord(c);
        typeWord(d);
        typeWord(e);
        return line.size();
    }

    public int erase() {
        int had = line.size();
        line.clear();
        return had;
    }

    public int number(long value) throws IllegalStateException {
        if (arguments.count() >= ARGUMENTS_MOST) {
            throw new IllegalStateException();
        }
        arguments.addNumber(value);
        return arguments.count();
    }

    public int text() throws IllegalStateException {
        if (arguments.count() >= ARGUMENTS_MOST) {
            throw new IllegalStateException();
        }
        arguments.addText(line);
        line.clear();
        return arguments.count();
    }

    public int none() {
        int were = arguments.count();
        arguments.clear();
        return were;
    }

    public void room(int characters) throws IllegalArgumentException {
        if (characters < 0 || characters > ROOM_MOST) {
            throw new IllegalArgumentException();
        }
        page.limitTo(characters);
        page.clear();
    }

    public int print() {
        faultPlace = printer.faultIn(line);
        if (faultPlace != NONE) {
            return BAD;
        }
        printer.begin();
        boolean again = true;
        for (int pass = 0; pass <= ARGUMENTS_MOST && again; pass++) {
            int before = arguments.taken();
            printer.printOnce(line);
            boolean tookSome = arguments.taken() > before;
            again = tookSome && arguments.taken() < arguments.count() && !printer.hasEnded();
        }
        int printed = answerOfPage();
        if (printed != FULL) {
            oddTexts = arguments.oddTexts();
        }
        return printed;
    }

    public int odd() {
        return oddTexts;
    }

    public int feed(int many, int a, int b, int c, int d)
            throws IllegalArgumentException, IllegalStateException {
        if (many < 0 || many > 16) {
            throw new IllegalArgumentException();
        }
        if (bytes.size() + many > DATA_MOST) {
            throw new IllegalStateException();
        }
        feedWord(a, many);
        feedWord(b, many - 4);
        feedWord(c, many - 8);
        feedWord(d, many - 12);
        return bytes.size();
    }

    public int cut(int n) throws IllegalArgumentException {
        if (n < 0 || n > bytes.size()) {
            throw new IllegalArgumentException();
        }
        return bytes.keepFirst(n);
    }

    public int words(int address, char type, int size, boolean all) throws IllegalArgumentException {
        if (!isAddressBase(address) || !isWord(type, size)) {
            throw new IllegalArgumentException();
        }
        page.clear();
        wordDump.dump(address, type, size, all);
        return answerOfPage();
    }

    public int pairs(int columns, int group, boolean large) throws IllegalArgumentException {
        if (!isShape(columns, group)) {
            throw new IllegalArgumentException();
        }
        page.clear();
        pairDump.dump(columns, groupOf(columns, group), large);
        return answerOfPage();
    }

    public int back(int columns, int group) throws IllegalArgumentException {
        if (!isShape(columns, group)) {
            throw new IllegalArgumentException();
        }
        boolean good = pairReader.readPage(columns, groupOf(columns, group));
        faultPlace = good ? NONE : pairReader.stop();
        if (!good) {
            return BAD;
        }
        if (pairReader.found().isOver()) {
            return FULL;
        }
        bytes.copyOf(pairReader.found());
        return bytes.size();
    }

    public int patch(int k, int to) throws IndexOutOfBoundsException, IllegalArgumentException {
        int was = page.at(k);
        if (was == NONE) {
            throw new IndexOutOfBoundsException();
        }
        if (to < 0 || to > 255) {
            throw new IllegalArgumentException();
        }
        page.change(k, to);
        return was;
    }

    public int trim(int n) throws IllegalArgumentException {
        if (n < 0 || n > page.size()) {
            throw new IllegalArgumentException();
        }
        return page.keepFirst(n);
    }

    public int place() {
        return faultPlace;
    }

    public int output(int k) {
        return page.at(k);
    }

    public int data(int k) {
        return bytes.at(k);
    }

    private static int byteOf(int word, int k) {
        return (word >>> (24 - 8 * k)) & 255;
    }

    private static int charactersIn(int word) {
        int many = 0;
        for (int k = 0; k < 4; k++) {
            if (byteOf(word, k) != 0) {
                many++;
            }
        }
        return many;
    }

    private void typeWord(int word) {
        for (int k = 0; k < 4; k++) {
            int character = byteOf(word, k);
            if (character != 0) {
                line.add(character);
            }
        }
    }

    private void feedWord(int word, int many) {
        for (int k = 0; k < 4 && k < many; k++) {
            bytes.add(byteOf(word, k));
        }
    }

    /** What did not fit is known only when all was written, so the page is emptied here. */
    private int answerOfPage() {
        if (page.isOver()) {
            page.clear();
            return FULL;
        }
        return page.size();
    }

    private static boolean isAddressBase(int address) {
        return address == 0 || address == 8 || address == 10 || address == 16;
    }

    private static boolean isWord(char letter, int size) {
        if (letter == 'c') {
            return size == 1;
        }
        boolean known = letter == 'o' || letter == 'x' || letter == 'u' || letter == 'd';
        return known && (size == 1 || size == 2 || size == 4 || size == 8);
    }

    private static boolean isShape(int columns, int group) {
        return columns >= 1 && columns <= COLUMNS_MOST && group >= 0 && group <= columns;
    }

    private static int groupOf(int columns, int group) {
        return group == 0 ? columns : group;
    }

    /** The value of a digit, large or small; NONE if it is none of this base, 16 at most. */
    private static int digitOf(int character, int base) {
        int digit = NONE;
        if (character >= '0' && character <= '9') {
            digit = character - '0';
        } else if (character >= 'a' && character <= 'f') {
            digit = character - 'a' + 10;
        } else if (character >= 'A' && character <= 'F') {
            digit = character - 'A' + 10;
        }
        return digit < base ? digit : NONE;
    }

    private static boolean canBeSeen(int character) {
        return character >= 32 && character <= 126;
    }

    /** What stands in a dump by pairs for a byte. */
    private static int seenAs(int value) {
        return canBeSeen(value) ? value : '.';
    }

    /** How many characters the pairs of a full line take, the blanks behind the groups too. */
    private static int pairsWidth(int columns, int group) {
        int blanks = 0;
        for (int k = 0; k < columns; k++) {
            if (endsGroup(k, columns, group)) {
                blanks++;
            }
        }
        return 2 * columns + blanks;
    }

    /** Whether a blank is due behind byte k of a line of so many. */
    private static boolean endsGroup(int k, int many, int group) {
        return k + 1 == many || (group > 0 && (k + 1) % group == 0);
    }

    /** Numbers 0 .. 255 up to a limit; made once and used again, so that calls make no objects. */
    private static final class Row {
        private final int[] cells;
        private int limit;
        private int size;
        private boolean over;

        Row(int most) {
            cells = new int[most];
            limit = most;
            size = 0;
            over = false;
        }

        int size() {
            return size;
        }

        /** Whether something was added since the last clear that had no room. */
        boolean isOver() {
            return over;
        }

        void clear() {
            size = 0;
            over = false;
        }

        void limitTo(int most) {
            limit = Math.max(0, Math.min(most, cells.length));
        }

        void add(int value) {
            if (size < limit) {
                cells[size] = value & 255;
                size++;
            } else {
                over = true;
            }
        }

        void addMany(int value, int many) {
            for (int k = 0; k < many; k++) {
                add(value);
            }
        }

        int at(int k) {
            return k >= 0 && k < size ? cells[k] : NONE;
        }

        void change(int k, int value) {
            if (k >= 0 && k < size) {
                cells[k] = value & 255;
            }
        }

        /** Answers how many are gone. */
        int keepFirst(int n) {
            int stay = Math.max(0, Math.min(n, size));
            int gone = size - stay;
            size = stay;
            return gone;
        }

        void copyOf(Row other) {
            clear();
            for (int k = 0; k < other.size(); k++) {
                add(other.at(k));
            }
        }
    }

    /** The digits of a number without a sign; 0 has none of its own. */
    private static final class Figures {
        private final int[] lowestFirst;
        private int size;
        private boolean large;

        Figures() {
            lowestFirst = new int[FIGURES_MOST];
            size = 0;
            large = false;
        }

        void take(long value, int base, boolean largeDigits) {
            int half = Math.max(1, base / 2);
            long rest = value;
            size = 0;
            large = largeDigits;
            for (int k = 0; k < FIGURES_MOST && rest != 0; k++) {
                // All bases are even: halving first keeps the 64 bits from being taken for a sign.
                long quotient = (rest >>> 1) / half;
                lowestFirst[k] = (int) (rest - quotient * base);
                size = k + 1;
                rest = quotient;
            }
        }

        int size() {
            return size;
        }

        void writeTo(Row out, int least) {
            for (int k = Math.max(least, size) - 1; k >= 0; k--) {
                out.add(k < size ? characterOf(lowestFirst[k]) : '0');
            }
        }

        private int characterOf(int digit) {
            if (digit < 10) {
                return '0' + digit;
            }
            return (large ? 'A' : 'a') + digit - 10;
        }
    }

    /** A text read as a number, as far as it goes. */
    private static final class NumberReading {
        private long value;
        private boolean odd;

        NumberReading() {
            value = 0;
            odd = false;
        }

        long value() {
            return value;
        }

        boolean isOdd() {
            return odd;
        }

        void read(Row from) {
            int first = from.at(0);
            if (first == '\'' || first == '"') {
                readCharacter(from);
                return;
            }
            int start = first == '+' || first == '-' ? 1 : 0;
            if (from.at(start) != '0') {
                readDigits(from, start, 10);
            } else if (isHexadecimal(from, start)) {
                readDigits(from, start + 2, 16);
            } else {
                readDigits(from, start, 8);
            }
            if (first == '-') {
                value = -value;
            }
        }

        private void readCharacter(Row from) {
            value = from.size() > 1 ? from.at(1) : 0;
            odd = from.size() != 2;
        }

        private static boolean isHexadecimal(Row from, int start) {
            int mark = from.at(start + 1);
            return (mark == 'x' || mark == 'X') && digitOf(from.at(start + 2), 16) != NONE;
        }

        private void readDigits(Row from, int start, int base) {
            int at = start;
            value = 0;
            while (at < from.size() && digitOf(from.at(at), base) != NONE) {
                value = value * base + digitOf(from.at(at), base);
                at++;
            }
            odd = at == start || at < from.size();
        }
    }

    /** A number or a text. */
    private static final class Argument {
        final Row characters;
        boolean isText;
        long value;

        Argument() {
            characters = new Row(LINE_MOST);
            isText = false;
            value = 0;
        }
    }

    /** The arguments, and how many of them a print has taken. */
    private static final class Arguments {
        private final Argument[] all;
        private final NumberReading reading;
        private int count;
        private int taken;
        private int oddTexts;

        Arguments() {
            all = new Argument[ARGUMENTS_MOST];
            for (int k = 0; k < ARGUMENTS_MOST; k++) {
                all[k] = new Argument();
            }
            reading = new NumberReading();
            count = 0;
            taken = 0;
            oddTexts = 0;
        }

        int count() {
            return count;
        }

        int taken() {
            return taken;
        }

        int oddTexts() {
            return oddTexts;
        }

        void clear() {
            count = 0;
        }

        void addNumber(long value) {
            if (count < ARGUMENTS_MOST) {
                all[count].isText = false;
                all[count].value = value;
                count++;
            }
        }

        void addText(Row from) {
            if (count < ARGUMENTS_MOST) {
                all[count].isText = true;
                all[count].characters.copyOf(from);
                count++;
            }
        }

        void takeFromFront() {
            taken = 0;
            oddTexts = 0;
        }

        /** The next argument, or null if there is none left. */
        Argument takeNext() {
            if (taken >= count) {
                return null;
            }
            taken++;
            return all[taken - 1];
        }

        long takeNumber() {
            Argument next = takeNext();
            if (next == null) {
                return 0;
            }
            if (!next.isText) {
                return next.value;
            }
            reading.read(next.characters);
            if (reading.isOdd()) {
                oddTexts++;
            }
            return reading.value();
        }
    }

    /** What stands behind a backslash. */
    private static final class Escape {
        private int value;
        private int end;

        Escape() {
            value = 0;
            end = 0;
        }

        int value() {
            return value;
        }

        /** The place behind the escape. */
        int end() {
            return end;
        }

        /** Whether the backslash before this place is one of a format's escapes. */
        boolean readInFormat(Row from, int at) {
            if (readLetter(from, at)) {
                return true;
            }
            readOctal(from, at);
            return end > at;
        }

        /** Whether the backslash before this place makes a character in a text. */
        boolean readInText(Row from, int at) {
            if (readLetter(from, at)) {
                return true;
            }
            if (from.at(at) != '0') {
                return false;
            }
            readOctal(from, at + 1);
            return true;
        }

        private boolean readLetter(Row from, int at) {
            value = meaningOf(from.at(at));
            end = at + 1;
            return value != NONE;
        }

        private void readOctal(Row from, int at) {
            value = 0;
            end = at;
            for (int k = 0; k < 3 && digitOf(from.at(end), 8) != NONE; k++) {
                value = value * 8 + digitOf(from.at(end), 8);
                end++;
            }
        }

        private static int meaningOf(int letter) {
            switch (letter) {
                case '\\': return 92;
                case 'a': return 7;
                case 'b': return 8;
                case 'f': return 12;
                case 'n': return 10;
                case 'r': return 13;
                case 't': return 9;
                case 'v': return 11;
                default: return NONE;
            }
        }
    }

    /** What stands behind a %, but for a second one. */
    private static final class Directive {
        boolean flagLeft;
        boolean flagPlus;
        boolean flagBlank;
        boolean flagMark;
        boolean flagZero;
        boolean starWidth;
        boolean starPrecision;
        int width;
        int precision;
        int bits;
        int letter;
        int end;

        Directive() {
            forget();
        }

        /** Whether a whole directive stands at this place, that behind the %. */
        boolean read(Row format, int at) {
            forget();
            end = at;
            readFlags(format);
            readWidth(format);
            readPrecision(format);
            readLength(format);
            letter = format.at(end);
            end++;
            return isLetter();
        }

        boolean isSigned() {
            return letter == 'd' || letter == 'i';
        }

        boolean isHexadecimal() {
            return letter == 'x' || letter == 'X';
        }

        int base() {
            if (letter == 'o') {
                return 8;
            }
            return isHexadecimal() ? 16 : 10;
        }

        boolean fillsWithZeros() {
            return flagZero && !flagLeft && precision == NONE;
        }

        void takeWidth(long number) {
            int wide = cutToStar(number);
            if (wide < 0) {
                flagLeft = true;
                wide = -wide;
            }
            width = wide;
        }

        void takePrecision(long number) {
            precision = number < 0 ? NONE : cutToStar(number);
        }

        private static int cutToStar(long number) {
            return (int) Math.max(-STAR_MOST, Math.min(STAR_MOST, number));
        }

        private void forget() {
            flagLeft = false;
            flagPlus = false;
            flagBlank = false;
            flagMark = false;
            flagZero = false;
            starWidth = false;
            starPrecision = false;
            width = 0;
            precision = NONE;
            bits = 32;
            letter = NONE;
            end = 0;
        }

        private void readFlags(Row format) {
            while (end < format.size() && noteFlag(format.at(end))) {
                end++;
            }
        }

        private boolean noteFlag(int character) {
            switch (character) {
                case '-': flagLeft = true; return true;
                case '+': flagPlus = true; return true;
                case ' ': flagBlank = true; return true;
                case '#': flagMark = true; return true;
                case '0': flagZero = true; return true;
                default: return false;
            }
        }

        private void readWidth(Row format) {
            if (format.at(end) == '*') {
                starWidth = true;
                end++;
            } else {
                // The flags have taken every 0 in front, so a width cannot begin with one.
                width = readTwoDigits(format);
            }
        }

        private void readPrecision(Row format) {
            if (format.at(end) != '.') {
                return;
            }
            end++;
            if (format.at(end) == '*') {
                starPrecision = true;
                end++;
            } else {
                precision = readTwoDigits(format);
            }
        }

        private int readTwoDigits(Row format) {
            int number = 0;
            for (int k = 0; k < 2 && digitOf(format.at(end), 10) != NONE; k++) {
                number = number * 10 + digitOf(format.at(end), 10);
                end++;
            }
            return number;
        }

        private void readLength(Row format) {
            int first = format.at(end);
            if (first != 'h' && first != 'l' && first != 'j') {
                return;
            }
            end++;
            bits = first == 'h' ? 16 : 64;
            if (first != 'j' && format.at(end) == first) {
                end++;
                bits = first == 'h' ? 8 : 64;
            }
        }

        private boolean isLetter() {
            switch (letter) {
                case 'd': case 'i': case 'u': case 'o': case 'x': case 'X':
                case 'c': case 's': case 'b':
                    return true;
                default:
                    return false;
            }
        }
    }

    /** Prints a format with the arguments. */
    private static final class Printer {
        private final Row page;
        private final Arguments arguments;
        private final Figures figures;
        private final Escape escape;
        private final Directive directive;
        private final Row piece;
        private final Row raw;
        private boolean ended;

        Printer(Row page, Arguments arguments, Figures figures) {
            this.page = page;
            this.arguments = arguments;
            this.figures = figures;
            escape = new Escape();
            directive = new Directive();
            piece = new Row(LINE_MOST);
            raw = new Row(LINE_MOST);
            ended = false;
        }

        /** The place of the first % or backslash that has no meaning, or NONE. */
        int faultIn(Row format) {
            int at = 0;
            for (int pieces = 0; pieces < LINE_MOST && at < format.size(); pieces++) {
                int end = readPiece(format, at);
                if (end == NONE) {
                    return at;
                }
                at = end;
            }
            return NONE;
        }

        void begin() {
            page.clear();
            arguments.takeFromFront();
            ended = false;
        }

        /** Whether a text has ended all printing. */
        boolean hasEnded() {
            return ended;
        }

        /** Once through a format that has no fault. */
        void printOnce(Row format) {
            int at = 0;
            for (int pieces = 0; pieces < LINE_MOST && at < format.size() && !ended; pieces++) {
                int character = format.at(at);
                int end = readPiece(format, at);
                if (end == NONE) {
                    return;
                }
                if (character == '\\') {
                    page.add(escape.value());
                } else if (character == '%' && format.at(at + 1) != '%') {
                    printDirective();
                } else {
                    page.add(character);
                }
                at = end;
            }
        }

        /** The place behind the piece that begins here, NONE if it is bad; what it says is kept. */
        private int readPiece(Row format, int at) {
            int character = format.at(at);
            if (character == '\\') {
                return escape.readInFormat(format, at + 1) ? escape.end() : NONE;
            }
            if (character != '%') {
                return at + 1;
            }
            if (format.at(at + 1) == '%') {
                return at + 2;
            }
            return directive.read(format, at + 1) ? directive.end : NONE;
        }

        private void printDirective() {
            if (directive.starWidth) {
                directive.takeWidth(arguments.takeNumber());
            }
            if (directive.starPrecision) {
                directive.takePrecision(arguments.takeNumber());
            }
            switch (directive.letter) {
                case 'c':
                    loadCharacter(arguments.takeNext());
                    printFilled();
                    break;
                case 's':
                    loadText(arguments.takeNext());
                    keepPrecision();
                    printFilled();
                    break;
                case 'b':
                    loadText(arguments.takeNext());
                    unescapePiece();
                    keepPrecision();
                    printFilled();
                    break;
                default:
                    printNumber(arguments.takeNumber());
                    break;
            }
        }

        private void loadCharacter(Argument from) {
            piece.clear();
            if (from == null) {
                return;
            }
            if (!from.isText) {
                piece.add((int) from.value);
            } else if (from.characters.size() > 0) {
                piece.add(from.characters.at(0));
            }
        }

        private void loadText(Argument from) {
            piece.clear();
            if (from == null) {
                return;
            }
            if (from.isText) {
                piece.copyOf(from.characters);
            } else {
                loadNumber(from.value);
            }
        }

        private void loadNumber(long value) {
            if (value < 0) {
                piece.add('-');
            }
            figures.take(value < 0 ? -value : value, 10, false);
            figures.writeTo(piece, 1);
        }

        private void unescapePiece() {
            int at = 0;
            raw.copyOf(piece);
            piece.clear();
            for (int k = 0; k < LINE_MOST && at < raw.size(); k++) {
                boolean slash = raw.at(at) == '\\';
                if (slash && raw.at(at + 1) == 'c') {
                    ended = true;
                    return;
                }
                if (slash && escape.readInText(raw, at + 1)) {
                    piece.add(escape.value());
                    at = escape.end();
                } else {
                    piece.add(raw.at(at));
                    at++;
                }
            }
        }

        private void keepPrecision() {
            if (directive.precision != NONE) {
                piece.keepFirst(directive.precision);
            }
        }

        private void printFilled() {
            int fill = directive.width - piece.size();
            if (!directive.flagLeft) {
                page.addMany(' ', fill);
            }
            for (int k = 0; k < piece.size(); k++) {
                page.add(piece.at(k));
            }
            if (directive.flagLeft) {
                page.addMany(' ', fill);
            }
        }

        private void printNumber(long argument) {
            long value = narrowed(argument);
            boolean below = directive.isSigned() && value < 0;
            figures.take(below ? -value : value, directive.base(), directive.letter == 'X');
            int digits = digitsDue();
            boolean marked = directive.flagMark && directive.isHexadecimal() && value != 0;
            int sign = signOf(below);
            int front = marked ? 2 : sign == NONE ? 0 : 1;
            int fill = directive.width - front - digits;
            boolean zeros = directive.fillsWithZeros();
            if (!directive.flagLeft && !zeros) {
                page.addMany(' ', fill);
            }
            if (marked) {
                page.add('0');
                page.add(directive.letter);
            } else if (sign != NONE) {
                page.add(sign);
            }
            if (zeros) {
                page.addMany('0', fill);
            }
            figures.writeTo(page, digits);
            if (directive.flagLeft) {
                page.addMany(' ', fill);
            }
        }

        /** The lowest bits that the length leaves, with their sign for d and i alone. */
        private long narrowed(long value) {
            int gone = 64 - directive.bits;
            long high = value << gone;
            return directive.isSigned() ? high >> gone : high >>> gone;
        }

        private int digitsDue() {
            int least = directive.precision == NONE ? 1 : directive.precision;
            int digits = Math.max(least, figures.size());
            // Where nothing fills up the digits, none of them is a 0 in front.
            if (directive.flagMark && directive.letter == 'o' && digits == figures.size()) {
                digits++;
            }
            return digits;
        }

        private int signOf(boolean below) {
            if (!directive.isSigned()) {
                return NONE;
            }
            if (below) {
                return '-';
            }
            if (directive.flagPlus) {
                return '+';
            }
            return directive.flagBlank ? ' ' : NONE;
        }
    }

    /** Dumps bytes by words. */
    private static final class WordDump {
        private final Row page;
        private final Row bytes;
        private final Figures figures;
        private final Row field;
        private int addressBase;
        private char letter;
        private int wordSize;

        WordDump(Row page, Row bytes, Figures figures) {
            this.page = page;
            this.bytes = bytes;
            this.figures = figures;
            field = new Row(FIGURES_MOST);
            addressBase = 0;
            letter = 'o';
            wordSize = 1;
        }

        void dump(int address, char type, int size, boolean all) {
            addressBase = address;
            letter = type;
            wordSize = size;
            boolean leftOut = false;
            for (int start = 0; start < bytes.size(); start += WORDS_LINE) {
                if (all || !isLikeBefore(start)) {
                    leftOut = false;
                    writeLine(start);
                } else if (!leftOut) {
                    leftOut = true;
                    page.add('*');
                    page.add(NEWLINE);
                }
            }
            if (addressBase != 0) {
                writeAddress(bytes.size());
                page.add(NEWLINE);
            }
        }

        private boolean isLikeBefore(int start) {
            if (start < WORDS_LINE || start + WORDS_LINE > bytes.size()) {
                return false;
            }
            for (int k = start; k < start + WORDS_LINE; k++) {
                if (bytes.at(k) != bytes.at(k - WORDS_LINE)) {
                    return false;
                }
            }
            return true;
        }

        private void writeLine(int start) {
            int end = Math.min(start + WORDS_LINE, bytes.size());
            int step = Math.max(1, wordSize);
            if (addressBase != 0) {
                writeAddress(start);
            }
            for (int at = start; at < end; at += step) {
                page.add(' ');
                writeField(wordAt(at));
            }
            page.add(NEWLINE);
        }

        private void writeAddress(int address) {
            figures.take(address, addressBase, false);
            figures.writeTo(page, addressBase == 16 ? 6 : 7);
        }

        private long wordAt(int start) {
            long word = 0;
            for (int k = wordSize - 1; k >= 0; k--) {
                int at = start + k;
                word = word << 8 | (at < bytes.size() ? bytes.at(at) : 0);
            }
            return word;
        }

        private void writeField(long word) {
            field.clear();
            if (letter == 'c') {
                loadCharacter((int) word);
            } else {
                loadNumber(word);
            }
            page.addMany(' ', fieldWidth() - field.size());
            for (int k = 0; k < field.size(); k++) {
                page.add(field.at(k));
            }
        }

        private void loadNumber(long word) {
            int unused = 64 - 8 * wordSize;
            boolean below = letter == 'd' && word << unused < 0;
            if (below) {
                field.add('-');
                figures.take(-(word << unused >> unused), 10, false);
            } else {
                figures.take(word, fieldBase(), false);
            }
            figures.writeTo(field, leastDigits());
        }

        private void loadCharacter(int value) {
            int name = nameOf(value);
            if (canBeSeen(value)) {
                field.add(value);
            } else if (name != NONE) {
                field.add('\\');
                field.add(name);
            } else {
                figures.take(value, 8, false);
                figures.writeTo(field, 3);
            }
        }

        private static int nameOf(int value) {
            switch (value) {
                case 0: return '0';
                case 7: return 'a';
                case 8: return 'b';
                case 9: return 't';
                case 10: return 'n';
                case 11: return 'v';
                case 12: return 'f';
                case 13: return 'r';
                default: return NONE;
            }
        }

        private int fieldBase() {
            switch (letter) {
                case 'o': return 8;
                case 'x': return 16;
                default: return 10;
            }
        }

        private int leastDigits() {
            switch (letter) {
                case 'o': return (8 * wordSize + 2) / 3;
                case 'x': return 2 * wordSize;
                default: return 1;
            }
        }

        private int fieldWidth() {
            switch (letter) {
                case 'u': return decimalWidth();
                // A sign takes one more, but 8 bytes with a sign have a digit less than without.
                case 'd': return wordSize == 8 ? 20 : decimalWidth() + 1;
                case 'c': return 3;
                default: return 0;
            }
        }

        private int decimalWidth() {
            switch (wordSize) {
                case 1: return 3;
                case 2: return 5;
                case 4: return 10;
                default: return 20;
            }
        }
    }

    /** Dumps bytes by pairs. */
    private static final class PairDump {
        private final Row page;
        private final Row bytes;
        private final Figures figures;

        PairDump(Row page, Row bytes, Figures figures) {
            this.page = page;
            this.bytes = bytes;
            this.figures = figures;
        }

        void dump(int columns, int group, boolean large) {
            int width = pairsWidth(columns, group);
            int step = Math.max(1, columns);
            for (int start = 0; start < bytes.size(); start += step) {
                int many = Math.min(step, bytes.size() - start);
                writeDigits(start, 8, large);
                page.add(':');
                page.add(' ');
                for (int k = 0; k < many; k++) {
                    writeDigits(bytes.at(start + k), 2, large);
                    if (endsGroup(k, many, group)) {
                        page.add(' ');
                    }
                }
                page.addMany(' ', width - pairsWidth(many, group) + 1);
                for (int k = 0; k < many; k++) {
                    page.add(seenAs(bytes.at(start + k)));
                }
                page.add(NEWLINE);
            }
        }

        private void writeDigits(int value, int least, boolean large) {
            figures.take(value, 16, large);
            figures.writeTo(page, least);
        }
    }

    /** Reads a dump by pairs; it stops at the first character that cannot be there. */
    private static final class PairReader {
        private final Row page;
        private final Row found;
        private final Row lineBytes;
        private int total;
        private int at;

        PairReader(Row page) {
            this.page = page;
            found = new Row(DATA_MOST);
            lineBytes = new Row(COLUMNS_MOST);
            total = 0;
            at = 0;
        }

        /** The bytes read; over, if they were more than there may be. */
        Row found() {
            return found;
        }

        /** Where the reading stopped. */
        int stop() {
            return at;
        }

        boolean readPage(int columns, int group) {
            int width = pairsWidth(columns, group);
            boolean full = true;
            found.clear();
            total = 0;
            at = 0;
            for (int lines = 0; lines < ROOM_MOST && at < page.size(); lines++) {
                // Nothing may follow a line that is not full.
                if (!full || !readLine(columns, group, width)) {
                    return false;
                }
                full = lineBytes.size() == columns;
            }
            return true;
        }

        private boolean readLine(int columns, int group, int width) {
            if (!readAddress() || !readOne(':') || !readOne(' ')) {
                return false;
            }
            int end = at + width;
            if (!readPairs(columns, group) || !readBlanks(end + 1) || !readSeen()) {
                return false;
            }
            return readOne(NEWLINE);
        }

        private boolean readAddress() {
            for (int shift = 28; shift >= 0; shift -= 4) {
                if (digitOf(page.at(at), 16) != (total >>> shift & 15)) {
                    return false;
                }
                at++;
            }
            return true;
        }

        private boolean readPairs(int columns, int group) {
            lineBytes.clear();
            for (int k = 0; k < columns; k++) {
                // A blank where a byte could begin ends the line's bytes; it has one at least.
                if (k > 0 && page.at(at) == ' ') {
                    return true;
                }
                if (!readPair()) {
                    return false;
                }
                if (endsGroup(k, columns, group) && !readOne(' ')) {
                    return false;
                }
            }
            return true;
        }

        private boolean readPair() {
            int high = digitOf(page.at(at), 16);
            if (high == NONE) {
                return false;
            }
            at++;
            int low = digitOf(page.at(at), 16);
            if (low == NONE) {
                return false;
            }
            at++;
            total++;
            lineBytes.add(high * 16 + low);
            found.add(high * 16 + low);
            return true;
        }

        private boolean readBlanks(int end) {
            while (at < end && page.at(at) == ' ') {
                at++;
            }
            return at >= end;
        }

        private boolean readSeen() {
            for (int k = 0; k < lineBytes.size(); k++) {
                if (!readOne(seenAs(lineBytes.at(k)))) {
                    return false;
                }
            }
            return true;
        }

        private boolean readOne(int character) {
            if (page.at(at) != character) {
                return false;
            }
            at++;
            return true;
        }
    }
}
