/** Dates undated books by type damage and paper. The shared document numbers its promises. */
public final class ColophonHunt {
    public static final int NONE = -1;

    private static final int MOST_BOOKS = 10;
    private static final int MOST_SETS = 1 << MOST_BOOKS;
    private static final int MOST_SAVED = 6;
    private static final int MOST_CHARACTERS = 60;
    private static final int PRESSES = 3;
    private static final int LETTERS = 12;
    private static final int LAST_MOULD = 99;
    private static final int FIRST_YEAR = 1450;
    private static final int LAST_YEAR = 1999;
    private static final int FIRST_CODE = 33;
    private static final int LAST_CODE = 126;
    private static final int LAST_COUNT = 9;
    private static final int LAST_BOOK_NUMBER = 10;
    private static final int LAST_PLACE_NUMBER = 2;
    private static final int BY_LETTER = 1;
    private static final int BY_MOULD = 2;
    private static final int BY_YEAR = 4;
    private static final int DIGEST_YEAR = 1700;

    private final Shelf shelf;
    private final Shelf supposedShelf;
    private final History history;
    private final Reading reading;
    private final Reading supposedReading;
    private final TextReader textReader;
    private final int[] codes;
    private int length;
    private boolean isReadingOld;

    public ColophonHunt() {
        shelf = new Shelf();
        supposedShelf = new Shelf();
        history = new History();
        reading = new Reading();
        supposedReading = new Reading();
        textReader = new TextReader();
        codes = new int[MOST_CHARACTERS];
        length = 0;
        isReadingOld = true;
    }

    // ---- books

    public int book(int press, int letters, int mould, int year)
            throws IllegalArgumentException, IllegalStateException {
        if (!isPress(press) || !isLetterMask(letters) || !isMouldOrNone(mould) || !isYearOrNone(year)) {
            throw new IllegalArgumentException("an argument is out of range");
        }
        if (shelf.size >= MOST_BOOKS) {
            throw new IllegalStateException("there are 10 books");
        }
        save();
        shelf.add(press, letters, mould, year);
        return shelf.size - 1;
    }

    public int take(int book) throws IndexOutOfBoundsException {
        if (!isBook(book)) {
            throw new IndexOutOfBoundsException("no such book");
        }
        save();
        shelf.remove(book);
        return shelf.size;
    }

    public int crack(int book, int letter, boolean isCracked) throws IndexOutOfBoundsException {
        if (!isBook(book) || !isLetter(letter)) {
            throw new IndexOutOfBoundsException("no such book or letter");
        }
        save();
        int was = (shelf.letters[book] >> letter) & 1;
        shelf.show(book, letter, isCracked);
        return was;
    }

    public int mould(int book, int mould) throws IndexOutOfBoundsException, IllegalArgumentException {
        if (!isBook(book)) {
            throw new IndexOutOfBoundsException("no such book");
        }
        if (!isMouldOrNone(mould)) {
            throw new IllegalArgumentException("mould is out of range");
        }
        save();
        int previous = shelf.moulds[book];
        shelf.moulds[book] = mould;
        return previous;
    }

    public int year(int book, int year) throws IndexOutOfBoundsException, IllegalArgumentException {
        if (!isBook(book)) {
            throw new IndexOutOfBoundsException("no such book");
        }
        if (!isYearOrNone(year)) {
            throw new IllegalArgumentException("year is out of range");
        }
        save();
        int previous = shelf.years[book];
        shelf.years[book] = year;
        return previous;
    }

    public int press(int book, int press) throws IndexOutOfBoundsException, IllegalArgumentException {
        if (!isBook(book)) {
            throw new IndexOutOfBoundsException("no such book");
        }
        if (!isPress(press)) {
            throw new IllegalArgumentException("press is out of range");
        }
        save();
        int previous = shelf.presses[book];
        shelf.presses[book] = press;
        return previous;
    }

    public int date() {
        // The reading stays that of the books ahead of the changes: a year that is
        // given here must not date another book in the same call.
        Reading untouched = currentReading();
        save();
        int given = 0;
        for (int book = 0; book < shelf.size; book++) {
            if (shelf.years[book] == NONE && untouched.isDated(book)) {
                shelf.years[book] = untouched.firstYears[book];
                given++;
            }
        }
        return given;
    }

    // ---- texts

    public int append(int code) throws IllegalArgumentException, IllegalStateException {
        if (code < FIRST_CODE || code > LAST_CODE) {
            throw new IllegalArgumentException("code is not 33 to 126");
        }
        if (length >= MOST_CHARACTERS) {
            throw new IllegalStateException("the buffer has 60 characters");
        }
        codes[length] = code;
        length++;
        return length;
    }

    public int clearBuffer() {
        int had = length;
        length = 0;
        return had;
    }

    public int firstError() {
        return textReader.readToError(codes, length);
    }

    public int books() throws IllegalArgumentException, IllegalStateException {
        if (textReader.readToError(codes, length) < length || !textReader.isComplete()) {
            throw new IllegalArgumentException("the buffer is not complete books as a text");
        }
        if (shelf.size + textReader.parts > MOST_BOOKS) {
            throw new IllegalStateException("there would be more than 10 books");
        }
        save();
        textReader.endPart();
        shelf.addAll(textReader.found);
        length = 0;
        return shelf.size;
    }

    public int undo() throws IllegalStateException {
        if (history.size == 0) {
            throw new IllegalStateException("there is no saved state");
        }
        history.restoreLatest(shelf);
        isReadingOld = true;
        return history.size;
    }

    // ---- looks; nothing is changed

    public int bookOf(int book, int what) throws IndexOutOfBoundsException, IllegalArgumentException {
        if (!isBook(book)) {
            throw new IndexOutOfBoundsException("no such book");
        }
        if (what < 0 || what > LAST_BOOK_NUMBER) {
            throw new IllegalArgumentException("what is not 0 to 10");
        }
        return numberOfBook(book, what);
    }

    public int ahead(int book, int other) throws IndexOutOfBoundsException, IllegalArgumentException {
        if (!isBook(book) || !isBook(other)) {
            throw new IndexOutOfBoundsException("no such book");
        }
        if (book == other) {
            throw new IllegalArgumentException("both are the same");
        }
        return shelf.reasonsAhead(book, other);
    }

    public int count(int what) throws IllegalArgumentException {
        if (what < 0 || what > LAST_COUNT) {
            throw new IllegalArgumentException("what is not 0 to 9");
        }
        return numberOfAll(what);
    }

    public int order(int place) throws IllegalArgumentException {
        if (place < 0) {
            throw new IllegalArgumentException("place is below 0");
        }
        return currentReading().bookInFirstOrder(place);
    }

    public int place(int book, int what) throws IndexOutOfBoundsException, IllegalArgumentException {
        if (!isBook(book)) {
            throw new IndexOutOfBoundsException("no such book");
        }
        if (what < 0 || what > LAST_PLACE_NUMBER) {
            throw new IllegalArgumentException("what is not 0 to 2");
        }
        return numberOfPlaces(book, what);
    }

    // ---- what would be; nothing is changed

    public int wrong(int what) throws IllegalArgumentException {
        if (what != 0 && what != 1) {
            throw new IllegalArgumentException("what is not 0 or 1");
        }
        int left = currentReading().leastWrongBooks();
        return what == 0 ? Integer.bitCount(left) : left;
    }

    public int tells(int letter) throws IndexOutOfBoundsException {
        if (!isLetter(letter)) {
            throw new IndexOutOfBoundsException("no such letter");
        }
        return ordersWithoutLetter(letter) - currentReading().orders();
    }

    public int ifYear(int book, int year, int what) throws IndexOutOfBoundsException, IllegalArgumentException {
        if (!isBook(book)) {
            throw new IndexOutOfBoundsException("no such book");
        }
        if (!isYear(year) || (what != 0 && what != 1)) {
            throw new IllegalArgumentException("year or what is out of range");
        }
        return numberIfYear(book, year, what);
    }

    public double datedShare() {
        if (shelf.size == 0) {
            return 1.0;
        }
        return (double) currentReading().datedBooks() / shelf.size;
    }

    public long digest() {
        long hash = 3203;
        for (int what = 0; what <= LAST_COUNT; what++) {
            hash = mixed(hash, numberOfAll(what));
        }
        hash = withBooks(hash);
        Reading current = currentReading();
        for (int place = 0; place < shelf.size; place++) {
            hash = mixed(hash, current.bookInFirstOrder(place));
        }
        int left = current.leastWrongBooks();
        hash = mixed(mixed(hash, Integer.bitCount(left)), left);
        for (int letter = 0; letter < LETTERS; letter++) {
            hash = mixed(hash, ordersWithoutLetter(letter) - current.orders());
        }
        if (shelf.size > 0) {
            hash = mixed(hash, numberIfYear(0, DIGEST_YEAR, 0));
            hash = mixed(hash, numberIfYear(0, DIGEST_YEAR, 1));
        }
        return withBuffer(mixed(hash, bitsOfShare(datedShare())));
    }

    // ---- parts of the digest

    private static long mixed(long hash, long value) {
        return 31 * hash + value;
    }

    private long withBooks(long hash) {
        for (int book = 0; book < shelf.size; book++) {
            for (int what = 0; what <= LAST_BOOK_NUMBER; what++) {
                hash = mixed(hash, numberOfBook(book, what));
            }
            for (int what = 0; what <= LAST_PLACE_NUMBER; what++) {
                hash = mixed(hash, numberOfPlaces(book, what));
            }
        }
        return hash;
    }

    private long withBuffer(long hash) {
        hash = mixed(hash, length);
        for (int i = 0; i < length; i++) {
            hash = mixed(hash, codes[i]);
        }
        return hash;
    }

    /** Double.doubleToLongBits of 0 and of 1/1024 to 1, by hand: the language leaves that call out. */
    private static long bitsOfShare(double share) {
        if (share <= 0.0) {
            return 0L;
        }
        double scaled = share;
        long exponent = 1023;
        for (int i = 0; i < 10 && scaled < 1.0; i++) {
            scaled = scaled * 2.0;
            exponent--;
        }
        long fraction = (long) ((scaled - 1.0) * (double) (1L << 52));
        return (exponent << 52) | fraction;
    }

    // ---- numbers, their arguments tested

    private int numberOfBook(int book, int what) {
        Reading current = currentReading();
        switch (what) {
            case 0: return shelf.presses[book];
            case 1: return shelf.letters[book];
            case 2: return shelf.moulds[book];
            case 3: return shelf.years[book];
            case 4: return Integer.bitCount(shelf.letters[book]);
            case 5: return current.firstYears[book];
            case 6: return current.lastYears[book];
            case 7: return current.isDated(book) ? 1 : 0;
            case 8: return Integer.bitCount(current.before[book]);
            case 9: return Integer.bitCount(current.behind[book]);
            default: return Integer.bitCount(current.before[book] & current.behind[book]);
        }
    }

    private int numberOfAll(int what) {
        switch (what) {
            case 0: return shelf.size;
            case 1: return currentReading().datedBooks();
            case 2: return shelf.booksWithYear();
            case 3: return currentReading().contradictingPairs();
            case 4: return currentReading().orders();
            case 5: return currentReading().orderedPairs();
            case 6: return history.size;
            default: return shelf.booksOfPress(what - 7);
        }
    }

    private int numberOfPlaces(int book, int what) {
        switch (what) {
            case 0: return currentReading().leastPlace(book);
            case 1: return currentReading().greatestPlace(book);
            default: return currentReading().ordersWithFirst(book);
        }
    }

    private int numberIfYear(int book, int year, int what) {
        supposedShelf.copyFrom(shelf);
        supposedShelf.years[book] = year;
        supposedReading.read(supposedShelf);
        return what == 0 ? supposedReading.orders() : supposedReading.datedBooks();
    }

    private int ordersWithoutLetter(int letter) {
        supposedShelf.copyFrom(shelf);
        for (int book = 0; book < supposedShelf.size; book++) {
            supposedShelf.show(book, letter, false);
        }
        supposedReading.read(supposedShelf);
        return supposedReading.orders();
    }

    // ---- state

    /** Every change of the shelf goes through here or through undo, so that no old reading is used. */
    private void save() {
        history.keep(shelf);
        isReadingOld = true;
    }

    private Reading currentReading() {
        if (isReadingOld) {
            reading.read(shelf);
            isReadingOld = false;
        }
        return reading;
    }

    // ---- ranges

    private boolean isBook(int book) {
        return book >= 0 && book < shelf.size;
    }

    private static boolean isPress(int press) {
        return press >= 0 && press < PRESSES;
    }

    private static boolean isLetter(int letter) {
        return letter >= 0 && letter < LETTERS;
    }

    private static boolean isLetterMask(int letters) {
        return letters >= 0 && letters < (1 << LETTERS);
    }

    private static boolean isMouldOrNone(int mould) {
        return mould == NONE || (mould >= 0 && mould <= LAST_MOULD);
    }

    private static boolean isYear(int year) {
        return year >= FIRST_YEAR && year <= LAST_YEAR;
    }

    private static boolean isYearOrNone(int year) {
        return year == NONE || isYear(year);
    }

    /** Books by their numbers, a row for each thing that is known of them. */
    private static final class Shelf {
        final int[] presses;
        final int[] letters;
        final int[] moulds;
        final int[] years;
        int size;

        Shelf() {
            presses = new int[MOST_BOOKS];
            letters = new int[MOST_BOOKS];
            moulds = new int[MOST_BOOKS];
            years = new int[MOST_BOOKS];
            size = 0;
        }

        void clear() {
            size = 0;
        }

        /** What does not fit on the shelf is left: who may not lose a book looks at the size first. */
        void add(int press, int letterMask, int mould, int year) {
            if (size >= MOST_BOOKS) {
                return;
            }
            presses[size] = press;
            letters[size] = letterMask;
            moulds[size] = mould;
            years[size] = year;
            size++;
        }

        void addAll(Shelf other) {
            for (int b = 0; b < other.size; b++) {
                add(other.presses[b], other.letters[b], other.moulds[b], other.years[b]);
            }
        }

        void remove(int book) {
            for (int b = book; b + 1 < size; b++) {
                presses[b] = presses[b + 1];
                letters[b] = letters[b + 1];
                moulds[b] = moulds[b + 1];
                years[b] = years[b + 1];
            }
            size--;
        }

        void copyFrom(Shelf other) {
            clear();
            addAll(other);
        }

        void show(int book, int letter, boolean isCracked) {
            int bit = 1 << letter;
            letters[book] = isCracked ? letters[book] | bit : letters[book] & ~bit;
        }

        /** NONE is below all told numbers, so of a rising pair only the first can be untold. */
        int reasonsAhead(int one, int other) {
            int reasons = 0;
            if (presses[one] == presses[other]) {
                if ((letters[other] & ~letters[one]) != 0) {
                    reasons += BY_LETTER;
                }
                if (moulds[one] != NONE && moulds[one] < moulds[other]) {
                    reasons += BY_MOULD;
                }
            }
            if (years[one] != NONE && years[one] < years[other]) {
                reasons += BY_YEAR;
            }
            return reasons;
        }

        int booksWithYear() {
            int found = 0;
            for (int b = 0; b < size; b++) {
                if (years[b] != NONE) {
                    found++;
                }
            }
            return found;
        }

        int booksOfPress(int press) {
            int found = 0;
            for (int b = 0; b < size; b++) {
                if (presses[b] == press) {
                    found++;
                }
            }
            return found;
        }
    }

    /** The saved states, the oldest first. Its shelves are made once and used again. */
    private static final class History {
        private final Shelf[] states;
        int size;

        History() {
            states = new Shelf[MOST_SAVED];
            for (int i = 0; i < MOST_SAVED; i++) {
                states[i] = new Shelf();
            }
            size = 0;
        }

        void keep(Shelf shelf) {
            if (size >= MOST_SAVED) {
                dropOldest();
            }
            states[size].copyFrom(shelf);
            size++;
        }

        private void dropOldest() {
            Shelf oldest = states[0];
            for (int i = 0; i + 1 < MOST_SAVED; i++) {
                states[i] = states[i + 1];
            }
            states[MOST_SAVED - 1] = oldest;
            size--;
        }

        void restoreLatest(Shelf shelf) {
            if (size > 0) {
                size--;
                shelf.copyFrom(states[size]);
            }
        }
    }

    /** What the books of a shelf tell of their orders and years. Sets of books are masks. */
    private static final class Reading {
        final int[] before;
        final int[] behind;
        final int[] firstYears;
        final int[] lastYears;
        private final int[] allBefore;
        private final int[] allBehind;
        private final int[] ordersOfSet;
        private boolean areOrdersCounted;
        private boolean isAnyOrder;
        private int size;

        Reading() {
            before = new int[MOST_BOOKS];
            behind = new int[MOST_BOOKS];
            firstYears = new int[MOST_BOOKS];
            lastYears = new int[MOST_BOOKS];
            allBefore = new int[MOST_BOOKS];
            allBehind = new int[MOST_BOOKS];
            ordersOfSet = new int[MOST_SETS];
            areOrdersCounted = false;
            isAnyOrder = true;
            size = 0;
        }

        void read(Shelf shelf) {
            size = shelf.size;
            areOrdersCounted = false;
            readPairs(shelf);
            followPairs();
            readYears(shelf);
        }

        private void readPairs(Shelf shelf) {
            for (int b = 0; b < size; b++) {
                before[b] = 0;
                behind[b] = 0;
                for (int other = 0; other < size; other++) {
                    if (other != b && shelf.reasonsAhead(other, b) != 0) {
                        before[b] |= 1 << other;
                    }
                    if (other != b && shelf.reasonsAhead(b, other) != 0) {
                        behind[b] |= 1 << other;
                    }
                }
            }
        }

        private void followPairs() {
            for (int b = 0; b < size; b++) {
                allBefore[b] = before[b];
                allBehind[b] = behind[b];
            }
            for (int middle = 0; middle < size; middle++) {
                for (int b = 0; b < size; b++) {
                    if (has(allBefore[b], middle)) {
                        allBefore[b] |= allBefore[middle];
                    }
                    if (has(allBehind[b], middle)) {
                        allBehind[b] |= allBehind[middle];
                    }
                }
            }
            isAnyOrder = true;
            for (int b = 0; b < size; b++) {
                if (has(allBefore[b], b)) {
                    isAnyOrder = false;
                }
            }
        }

        private void readYears(Shelf shelf) {
            for (int b = 0; b < size; b++) {
                int first = FIRST_YEAR;
                int last = LAST_YEAR;
                for (int other = 0; other < size; other++) {
                    int year = shelf.years[other];
                    if (year != NONE && (other == b || has(allBefore[b], other))) {
                        first = Math.max(first, year);
                    }
                    if (year != NONE && (other == b || has(allBehind[b], other))) {
                        last = Math.min(last, year);
                    }
                }
                firstYears[b] = first;
                lastYears[b] = last;
            }
        }

        private static boolean has(int set, int book) {
            return ((set >> book) & 1) != 0;
        }

        private int allBooks() {
            return (1 << size) - 1;
        }

        boolean isDated(int book) {
            return firstYears[book] == lastYears[book];
        }

        int datedBooks() {
            int dated = 0;
            for (int b = 0; b < size; b++) {
                if (isDated(b)) {
                    dated++;
                }
            }
            return dated;
        }

        int contradictingPairs() {
            int seenFromBoth = 0;
            for (int b = 0; b < size; b++) {
                seenFromBoth += Integer.bitCount(before[b] & behind[b]);
            }
            return seenFromBoth / 2;
        }

        int orderedPairs() {
            int pairs = 0;
            for (int b = 0; b < size; b++) {
                pairs += Integer.bitCount(before[b] & ~behind[b]);
            }
            return pairs;
        }

        int orders() {
            return isAnyOrder ? ordersOf(allBooks()) : 0;
        }

        /** How many orders of a set of books alone fit; counted late, for few calls ask for it. */
        private int ordersOf(int set) {
            if (!areOrdersCounted) {
                countOrdersOfSets();
                areOrdersCounted = true;
            }
            return set >= 0 && set < MOST_SETS ? ordersOfSet[set] : 0;
        }

        private void countOrdersOfSets() {
            ordersOfSet[0] = 1;
            for (int set = 1; set <= allBooks(); set++) {
                int found = 0;
                for (int first = 0; first < size; first++) {
                    if (has(set, first) && (before[first] & set) == 0) {
                        found += ordersOfSet[set ^ (1 << first)];
                    }
                }
                ordersOfSet[set] = found;
            }
        }

        /** Taking the lowest free number each time never ends in a dead end, if any order fits. */
        int bookInFirstOrder(int place) {
            if (!isAnyOrder || place >= size) {
                return NONE;
            }
            int put = 0;
            int book = lowestFree(put);
            for (int p = 0; p < place && book != NONE; p++) {
                put |= 1 << book;
                book = lowestFree(put);
            }
            return book;
        }

        private int lowestFree(int put) {
            for (int b = 0; b < size; b++) {
                if (!has(put, b) && (before[b] & ~put) == 0) {
                    return b;
                }
            }
            return NONE;
        }

        int leastPlace(int book) {
            return isAnyOrder ? Integer.bitCount(allBefore[book]) : NONE;
        }

        int greatestPlace(int book) {
            return isAnyOrder ? size - 1 - Integer.bitCount(allBehind[book]) : NONE;
        }

        int ordersWithFirst(int book) {
            return isAnyOrder && before[book] == 0 ? ordersOf(allBooks() ^ (1 << book)) : 0;
        }

        int leastWrongBooks() {
            if (isAnyOrder) {
                return 0;
            }
            int best = allBooks();
            for (int left = 0; left <= allBooks(); left++) {
                if (Integer.bitCount(left) < Integer.bitCount(best) && ordersOf(allBooks() ^ left) > 0) {
                    best = left;
                }
            }
            return best;
        }
    }

    /** Reads books as a text, a character at a time, up to the first that no such text can have. */
    private static final class TextReader {
        private static final int PRESS = 0;
        private static final int FIRST_LETTER = 1;
        private static final int NEXT_LETTER = 2;
        private static final int LETTERS_DONE = 3;
        private static final int MOULD = 4;
        private static final int MOULD_SECOND = 5;
        private static final int MOULD_DONE = 6;
        private static final int YEAR = 7;
        private static final int YEAR_DONE = 8;

        final Shelf found;
        int parts;
        private int state;
        private int press;
        private int letters;
        private int mould;
        private int year;
        private int yearScale;

        TextReader() {
            found = new Shelf();
            parts = 0;
            state = PRESS;
        }

        int readToError(int[] codes, int length) {
            found.clear();
            parts = 0;
            state = PRESS;
            for (int i = 0; i < length && i < codes.length; i++) {
                if (!accepts(codes[i])) {
                    return i;
                }
            }
            return length;
        }

        boolean isComplete() {
            return state == NEXT_LETTER || state == LETTERS_DONE || state == MOULD_SECOND
                    || state == MOULD_DONE || state == YEAR_DONE;
        }

        void endPart() {
            found.add(press, letters, mould, year);
        }

        private boolean accepts(int code) {
            switch (state) {
                case PRESS: return acceptsPress(code);
                case FIRST_LETTER: return acceptsNoLetter(code) || acceptsLetter(code);
                case NEXT_LETTER: return acceptsLetter(code) || acceptsMouldSign(code) || acceptsFromYear(code);
                case LETTERS_DONE: return acceptsMouldSign(code) || acceptsFromYear(code);
                case MOULD: return acceptsMouldDigit(code);
                case MOULD_SECOND: return acceptsMouldDigit(code) || acceptsFromYear(code);
                case MOULD_DONE: return acceptsFromYear(code);
                case YEAR: return acceptsYearDigit(code);
                default: return acceptsPartEnd(code);
            }
        }

        private boolean acceptsPress(int code) {
            if (!isDigit(code) || !isPress(code - '0')) {
                return false;
            }
            parts++;
            press = code - '0';
            letters = 0;
            mould = NONE;
            year = NONE;
            state = FIRST_LETTER;
            return true;
        }

        private boolean acceptsNoLetter(int code) {
            if (code != '-') {
                return false;
            }
            state = LETTERS_DONE;
            return true;
        }

        private boolean acceptsLetter(int code) {
            int letter = code - 'a';
            // A mask below the letter's bit holds lower letters alone.
            if (!isLetter(letter) || letters >= (1 << letter)) {
                return false;
            }
            letters |= 1 << letter;
            state = NEXT_LETTER;
            return true;
        }

        private boolean acceptsMouldSign(int code) {
            if (code != 'm') {
                return false;
            }
            mould = 0;
            state = MOULD;
            return true;
        }

        private boolean acceptsMouldDigit(int code) {
            if (!isDigit(code)) {
                return false;
            }
            mould = 10 * mould + (code - '0');
            state = state == MOULD && mould > 0 ? MOULD_SECOND : MOULD_DONE;
            return true;
        }

        private boolean acceptsFromYear(int code) {
            if (code != 'y') {
                return acceptsPartEnd(code);
            }
            year = 0;
            yearScale = 1000;
            state = YEAR;
            return true;
        }

        /** A digit may stand if one of the years that begin with the digits so far is in range. */
        private boolean acceptsYearDigit(int code) {
            if (!isDigit(code)) {
                return false;
            }
            int begun = 10 * year + (code - '0');
            int least = begun * yearScale;
            int greatest = least + yearScale - 1;
            if (greatest < FIRST_YEAR || least > LAST_YEAR) {
                return false;
            }
            year = begun;
            yearScale = yearScale / 10;
            state = yearScale > 0 ? YEAR : YEAR_DONE;
            return true;
        }

        private boolean acceptsPartEnd(int code) {
            if (code != ';') {
                return false;
            }
            endPart();
            state = PRESS;
            return true;
        }

        private static boolean isDigit(int code) {
            return code >= '0' && code <= '9';
        }
    }
}
