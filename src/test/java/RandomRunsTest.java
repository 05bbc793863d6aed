import java.util.Random;

/** Runs of 512 calls, as many as the document lets an object answer, the same each time, against the naive hunt. */
public final class RandomRunsTest {
    private static final Class<IllegalArgumentException> IAE = IllegalArgumentException.class;
    private static final Class<IllegalStateException> ISE = IllegalStateException.class;
    private static final Class<IndexOutOfBoundsException> IOOBE = IndexOutOfBoundsException.class;
    private static final Checks CHECKS = new Checks();

    private static final int RUNS = 6000;
    private static final int MOST_CALLS = 512;
    /** The calls of the longest change, a text of 60 characters, and of a look at 6 books. */
    private static final int LONGEST_CHANGE = 64;
    private static final int LONGEST_LOOK = 148;

    private final Random random;
    private final int seed;
    private final int askedBefore;
    private final int most;
    private final int richness;
    private final ColophonHunt hunt = new ColophonHunt();
    private final NaiveHunt naive = new NaiveHunt();

    private RandomRunsTest(int seed) {
        random = new Random(seed);
        this.seed = seed;
        askedBefore = CHECKS.asked();
        most = seed % 8 == 0 ? 10 : 6;
        richness = seed % 3;
    }

    public static void main(String[] args) {
        for (int seed = 0; seed < RUNS && !CHECKS.isAnyWrong(); seed++) {
            new RandomRunsTest(seed).run();
        }
        CHECKS.close("RandomRunsTest");
    }

    /** Each answer that is asked is one call. */
    private int calls() {
        return CHECKS.asked() - askedBefore;
    }

    private String at() {
        return "run " + seed + ", call " + (calls() + 1) + ": ";
    }

    private void run() {
        int looksSeldom = 1 + seed % 5 * 3;
        while (calls() + LONGEST_CHANGE <= MOST_CALLS) {
            change(at());
            if (upTo(looksSeldom) == 0 && naive.books.size() <= 6 && calls() + LONGEST_LOOK <= MOST_CALLS) {
                look(at());
            }
        }
        while (calls() < MOST_CALLS) {
            oneCall(at());
        }
    }

    private void oneCall(String at) {
        switch (upTo(8)) {
            case 0: crackLetter(at); break;
            case 1: changeMould(at); break;
            case 2: changeYear(at); break;
            case 3: changePress(at); break;
            case 4: due(at + "date", hunt.date(), naive.date()); break;
            case 5: undo(at); break;
            default: countSomething(at); break;
        }
    }

    private void countSomething(String at) {
        int what = naive.books.size() <= 6 ? upTo(10) : 0;
        due(at + "count " + what, hunt.count(what), naive.count(what));
    }

    private int upTo(int bound) {
        return random.nextInt(bound);
    }

    private int aBook() {
        int size = naive.books.size();
        return upTo(12) == 0 ? (upTo(2) == 0 ? -1 : size) : size == 0 ? 0 : upTo(size);
    }

    private boolean isBook(int book) {
        return book >= 0 && book < naive.books.size();
    }

    private int letters() {
        // Rows of letters that crack one after the other fit, others seldom do.
        return upTo(6) == 0 ? upTo(4096) : (1 << upTo(richness == 0 ? 3 : 13)) - 1;
    }

    private int mould() {
        return upTo(20) == 0 ? (upTo(2) == 0 ? -2 : 100) : upTo(2) == 0 ? -1 : upTo(richness == 1 ? 2 : 100);
    }

    private int year() {
        int[] edges = {1449, 1450, 1999, 2000};
        return upTo(12) == 0 ? edges[upTo(4)] : upTo(2) == 0 ? -1 : 1600 + upTo(richness == 1 ? 2 : 30);
    }

    private static boolean isMould(int mould) {
        return mould >= -1 && mould <= 99;
    }

    private static boolean isYear(int year) {
        return year >= 1450 && year <= 1999;
    }

    private void due(String what, long got, long want) {
        CHECKS.due(what, got, want);
    }

    private void change(String at) {
        switch (upTo(12)) {
            case 0: case 1: case 2: addBook(at); break;
            case 3: takeBook(at); break;
            case 4: crackLetter(at); break;
            case 5: changeMould(at); break;
            case 6: changeYear(at); break;
            case 7: changePress(at); break;
            case 8: due(at + "date", hunt.date(), naive.date()); break;
            case 9: case 10: type(at); break;
            default: undo(at); break;
        }
    }

    private void addBook(String at) {
        int press = upTo(20) == 0 ? 3 : upTo(richness == 0 ? 1 : 3);
        int letters = upTo(30) == 0 ? 4096 : letters();
        int mould = mould();
        int year = year();
        Checks.Call call = () -> hunt.book(press, letters, mould, year);
        if (press == 3 || letters == 4096 || !isMould(mould) || (year != -1 && !isYear(year))) {
            CHECKS.throwsExactly(at + "book", IAE, call);
        } else if (naive.books.size() == 10) {
            CHECKS.throwsExactly(at + "book", ISE, call);
        } else if (naive.books.size() < most) {
            due(at + "book", call.answer(), naive.books.size());
            naive.save();
            naive.books.add(new NaiveHunt.Book(press, letters, mould, year));
        }
    }

    private void takeBook(String at) {
        int book = aBook();
        if (!isBook(book)) {
            CHECKS.throwsExactly(at + "take", IOOBE, () -> hunt.take(book));
            return;
        }
        naive.save();
        naive.books.remove(book);
        due(at + "take", hunt.take(book), naive.books.size());
    }

    private void crackLetter(String at) {
        int book = aBook();
        int letter = upTo(14) - 1;
        boolean isCracked = upTo(2) == 0;
        Checks.Call call = () -> hunt.crack(book, letter, isCracked);
        if (!isBook(book) || letter < 0 || letter > 11) {
            CHECKS.throwsExactly(at + "crack", IOOBE, call);
            return;
        }
        naive.save();
        NaiveHunt.Book was = naive.books.get(book);
        int without = was.letters() & ~(1 << letter);
        naive.books.set(book, new NaiveHunt.Book(was.press(), isCracked ? without + (1 << letter) : without, was.mould(), was.year()));
        due(at + "crack", call.answer(), was.letters() == without ? 0 : 1);
    }

    private void changeMould(String at) {
        int book = aBook();
        int mould = mould();
        Checks.Call call = () -> hunt.mould(book, mould);
        if (!isBook(book)) {
            CHECKS.throwsExactly(at + "mould", IOOBE, call);
        } else if (!isMould(mould)) {
            CHECKS.throwsExactly(at + "mould", IAE, call);
        } else {
            naive.save();
            NaiveHunt.Book was = naive.books.get(book);
            naive.books.set(book, new NaiveHunt.Book(was.press(), was.letters(), mould, was.year()));
            due(at + "mould", call.answer(), was.mould());
        }
    }

    private void changeYear(String at) {
        int book = aBook();
        int year = year();
        Checks.Call call = () -> hunt.year(book, year);
        if (!isBook(book)) {
            CHECKS.throwsExactly(at + "year", IOOBE, call);
        } else if (year != -1 && !isYear(year)) {
            CHECKS.throwsExactly(at + "year", IAE, call);
        } else {
            naive.save();
            NaiveHunt.Book was = naive.books.get(book);
            naive.books.set(book, new NaiveHunt.Book(was.press(), was.letters(), was.mould(), year));
            due(at + "year", call.answer(), was.year());
        }
    }

    private void changePress(String at) {
        int book = aBook();
        int press = upTo(20) == 0 ? -1 : upTo(20) == 0 ? 3 : upTo(3);
        Checks.Call call = () -> hunt.press(book, press);
        if (!isBook(book)) {
            CHECKS.throwsExactly(at + "press", IOOBE, call);
        } else if (press < 0 || press > 2) {
            CHECKS.throwsExactly(at + "press", IAE, call);
        } else {
            naive.save();
            NaiveHunt.Book was = naive.books.get(book);
            naive.books.set(book, new NaiveHunt.Book(press, was.letters(), was.mould(), was.year()));
            due(at + "press", call.answer(), was.press());
        }
    }

    private void undo(String at) {
        if (naive.saved.isEmpty()) {
            CHECKS.throwsExactly(at + "undo", ISE, () -> hunt.undo());
            return;
        }
        naive.undo();
        due(at + "undo", hunt.undo(), naive.saved.size());
    }

    private String part() {
        StringBuilder text = new StringBuilder().append(upTo(3));
        int letters = letters();
        for (int k = 0; k < 12; k++) {
            if ((letters >> k) % 2 == 1) {
                text.append((char) ('a' + k));
            }
        }
        if (letters == 0) {
            text.append('-');
        }
        if (upTo(2) == 0) {
            text.append('m').append(upTo(upTo(2) == 0 ? 12 : 100));
        }
        if (upTo(2) == 0) {
            text.append('y').append(upTo(3) == 0 ? 1400 + upTo(700) : 1450 + upTo(550));
        }
        return text.toString();
    }

    private String text() {
        StringBuilder text = new StringBuilder(part());
        for (int more = upTo(4); more > 0; more--) {
            text.append(';').append(part());
        }
        String signs = "0123456789abclmny;-~!";
        for (int spoils = upTo(3); spoils > 0; spoils--) {
            int at = upTo(text.length());
            char sign = signs.charAt(upTo(signs.length()));
            switch (upTo(3)) {
                case 0: text.setCharAt(at, sign); break;
                case 1: text.insert(at, sign); break;
                default: text.setLength(at + 1); break;
            }
        }
        return text.toString();
    }

    private void type(String at) {
        if (upTo(4) > 0) {
            due(at + "clearBuffer", hunt.clearBuffer(), naive.buffer.length());
            naive.buffer = "";
        }
        for (char c : text().toCharArray()) {
            if (naive.buffer.length() == 60) {
                CHECKS.throwsExactly(at + "append", ISE, () -> hunt.append(c));
                break;
            }
            naive.buffer += c;
            due(at + "append", hunt.append(c), naive.buffer.length());
        }
        due(at + "firstError " + naive.buffer, hunt.firstError(), naive.firstError());
        if (!NaiveHunt.isText(naive.buffer)) {
            CHECKS.throwsExactly(at + "books " + naive.buffer, IAE, () -> hunt.books());
        } else if (naive.books.size() + naive.booksInBuffer().size() > 10) {
            CHECKS.throwsExactly(at + "books " + naive.buffer, ISE, () -> hunt.books());
        } else if (naive.books.size() + naive.booksInBuffer().size() <= most) {
            naive.save();
            naive.books.addAll(naive.booksInBuffer());
            naive.buffer = "";
            due(at + "books", hunt.books(), naive.books.size());
        }
    }

    private void look(String at) {
        int size = naive.books.size();
        for (int what = 0; what <= 9; what++) {
            due(at + "count " + what, hunt.count(what), naive.count(what));
        }
        for (int b = 0; b < size; b++) {
            for (int what = 0; what <= 10; what++) {
                due(at + "bookOf " + b + ", " + what, hunt.bookOf(b, what), naive.bookOf(b, what));
            }
            for (int what = 0; what <= 2; what++) {
                due(at + "place " + b + ", " + what, hunt.place(b, what), naive.place(b, what));
            }
            for (int other = 0; other < size; other++) {
                if (other != b) {
                    due(at + "ahead " + b + ", " + other, hunt.ahead(b, other),
                        NaiveHunt.ahead(naive.books.get(b), naive.books.get(other)));
                }
            }
            int year = upTo(2) == 0 ? 1450 + upTo(550) : 1600 + upTo(30);
            due(at + "ifYear " + b + ", " + year, hunt.ifYear(b, year, 0), naive.ifYear(b, year, 0));
            due(at + "ifYear dated " + b + ", " + year, hunt.ifYear(b, year, 1), naive.ifYear(b, year, 1));
        }
        for (int place = 0; place <= size; place++) {
            due(at + "order " + place, hunt.order(place), naive.order(place));
        }
        due(at + "wrong 0", hunt.wrong(0), naive.wrong(0));
        due(at + "wrong 1", hunt.wrong(1), naive.wrong(1));
        int letter = upTo(12);
        due(at + "tells " + letter, hunt.tells(letter), naive.tells(letter));
        due(at + "datedShare", Double.doubleToLongBits(hunt.datedShare()), Double.doubleToLongBits(naive.datedShare()));
        if (upTo(5) == 0) {
            due(at + "digest", hunt.digest(), digest());
        }
    }

    private long digest() {
        int size = naive.books.size();
        long hash = 3203;
        for (int what = 0; what <= 9; what++) {
            hash = 31 * hash + naive.count(what);
        }
        for (int b = 0; b < size; b++) {
            for (int what = 0; what <= 10; what++) {
                hash = 31 * hash + naive.bookOf(b, what);
            }
            for (int what = 0; what <= 2; what++) {
                hash = 31 * hash + naive.place(b, what);
            }
        }
        for (int place = 0; place < size; place++) {
            hash = 31 * hash + naive.order(place);
        }
        hash = 31 * (31 * hash + naive.wrong(0)) + naive.wrong(1);
        for (int letter = 0; letter < 12; letter++) {
            hash = 31 * hash + naive.tells(letter);
        }
        if (size > 0) {
            hash = 31 * (31 * hash + naive.ifYear(0, 1700, 0)) + naive.ifYear(0, 1700, 1);
        }
        hash = 31 * hash + Double.doubleToLongBits(naive.datedShare());
        hash = 31 * hash + naive.buffer.length();
        for (char c : naive.buffer.toCharArray()) {
            hash = 31 * hash + c;
        }
        return hash;
    }
}
