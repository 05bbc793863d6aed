/** Promises 1 to 8, and the terms that they use: each sentence that names a boundary, at it and just beyond it. */
public final class BoundaryBooksTest extends Bench {
    public static void main(String[] args) {
        newHuntHasNoBooks();
        newHuntHasAnEmptyBuffer();
        newHuntHasNoSavedState();
        noneIsMinusOne();
        huntsShareNothing();
        theCall512IsAnswered();

        bookPress0To2();
        bookLetters0To4095();
        bookMould0To99OrNone();
        bookYear1450To1999OrNone();
        bookReturnsItsNumber();
        bookStandsBehindTheOthers();
        bookThrowsIfThereAre10();
        bookThrowsTheFirstNamedOf2();
        bookIsUndoable();

        takeThrowsIfThereIsNoSuchBook();
        takeMakesNumbersLessBy1();
        takeReturnsHowManyThereAreThen();
        takeMakesRoomForOne();
        takeIsUndoable();

        crackThrowsIfThereIsNoSuchBook();
        crackThrowsIfThereIsNoSuchLetter();
        crackReturnsWhetherItWas();
        crackChangesThatLetterAlone();
        crackIsUndoable();

        mouldThrowsIfThereIsNoSuchBook();
        mouldThrowsIfOutOfRange();
        mouldThrowsTheFirstNamedOf2();
        mouldReturnsThePreviousOne();
        mouldIsUndoable();

        yearThrowsIfThereIsNoSuchBook();
        yearThrowsIfOutOfRange();
        yearThrowsTheFirstNamedOf2();
        yearReturnsThePreviousOne();
        yearIsUndoable();

        pressThrowsIfThereIsNoSuchBook();
        pressThrowsIfOutOfRange();
        pressThrowsTheFirstNamedOf2();
        pressReturnsThePreviousOne();
        pressIsUndoable();

        dateGivesNoneWithoutBooks();
        dateGivesYearsToBooksWithoutOneAlone();
        dateGivesYearsToDatedBooksAlone();
        dateGivesTheFirstAndTheLastYearOfAll();
        dateGivesYearsToAllBut2Of10();
        dateLooksAheadOfTheChanges();
        dateIsUndoable();
        CHECKS.close("BoundaryBooksTest");
    }

    // ---- 1: a new object

    private static void newHuntHasNoBooks() {
        looks("1 books", ColophonHunt::new, x -> x.count(0), 0);
        refused("1 no book 0 to take", IOOBE, ColophonHunt::new, x -> x.take(0));
        refused("1 no book 0 to look at", IOOBE, ColophonHunt::new, x -> x.bookOf(0, 0));
        due("1 the first number", new ColophonHunt().book(0, 0, NONE, NONE), 0);
    }

    private static void newHuntHasAnEmptyBuffer() {
        looks("1 first error", ColophonHunt::new, x -> x.firstError(), 0);
        due("1 buffer", new ColophonHunt().clearBuffer(), 0);
        due("1 first character", new ColophonHunt().append('0'), 1);
    }

    private static void newHuntHasNoSavedState() {
        looks("1 saved states", ColophonHunt::new, x -> x.count(6), 0);
        refused("1 undo", ISE, ColophonHunt::new, x -> x.undo());
    }

    private static void noneIsMinusOne() {
        due("1 NONE", ColophonHunt.NONE, -1);
    }

    private static void huntsShareNothing() {
        ColophonHunt one = new ColophonHunt();
        ColophonHunt other = new ColophonHunt();
        one.book(1, 2, 3, 1500);
        one.append('0');
        dueAlike("1 untouched", other, new ColophonHunt());
        other.book(2, 4095, 99, 1999);
        dueBook("1 its own", one, 0, 1, 2, 3, 1500);
    }

    private static void theCall512IsAnswered() {
        ColophonHunt x = new ColophonHunt();
        for (int call = 1; call <= 500; call += 5) {
            due("1 book", x.book(0, 0, NONE, NONE), 0);
            due("1 append", x.append('0'), 1);
            due("1 take", x.take(0), 0);
            due("1 clearBuffer", x.clearBuffer(), 1);
            due("1 saved", x.count(6), call == 1 ? 2 : call == 6 ? 4 : 6);
        }
        for (int call = 501; call <= 510; call++) {
            due("1 book of call " + call, x.book(call % 3, 0, call % 100, 1000 + call), call - 501);
        }
        due("1 call 511", x.count(4), 1);
        due("1 call 512", x.undo(), 5);
    }

    // ---- 2: book

    private static void bookPress0To2() {
        for (int press = 0; press <= 2; press++) {
            ColophonHunt x = new ColophonHunt();
            due("2 press " + press, x.book(press, 1, 2, 1500), 0);
            dueBook("2 press " + press, x, 0, press, 1, 2, 1500);
        }
        for (int press : new int[] {-1, 3, LEAST, GREATEST}) {
            refused("2 press " + press, IAE, Bench::busy, x -> x.book(press, 1, 2, 1500));
        }
    }

    private static void bookLetters0To4095() {
        for (int letters : new int[] {0, 1, 2048, 4094, 4095}) {
            ColophonHunt x = new ColophonHunt();
            due("2 letters " + letters, x.book(2, letters, 2, 1500), 0);
            dueBook("2 letters " + letters, x, 0, 2, letters, 2, 1500);
        }
        for (int letters : new int[] {-1, 4096, 8191, 4096 + 1, LEAST, GREATEST}) {
            refused("2 letters " + letters, IAE, Bench::busy, x -> x.book(0, letters, 2, 1500));
        }
    }

    private static void bookMould0To99OrNone() {
        for (int mould : new int[] {NONE, 0, 1, 98, 99}) {
            ColophonHunt x = new ColophonHunt();
            due("2 mould " + mould, x.book(2, 1, mould, 1500), 0);
            dueBook("2 mould " + mould, x, 0, 2, 1, mould, 1500);
        }
        for (int mould : new int[] {-2, 100, LEAST, GREATEST}) {
            refused("2 mould " + mould, IAE, Bench::busy, x -> x.book(0, 1, mould, 1500));
        }
    }

    private static void bookYear1450To1999OrNone() {
        for (int year : new int[] {NONE, 1450, 1451, 1998, 1999}) {
            ColophonHunt x = new ColophonHunt();
            due("2 year " + year, x.book(2, 1, 3, year), 0);
            dueBook("2 year " + year, x, 0, 2, 1, 3, year);
        }
        for (int year : new int[] {-2, 0, 1449, 2000, LEAST, GREATEST}) {
            refused("2 year " + year, IAE, Bench::busy, x -> x.book(0, 1, 2, year));
        }
    }

    private static void bookReturnsItsNumber() {
        ColophonHunt x = new ColophonHunt();
        for (int number = 0; number <= 9; number++) {
            due("2 number", x.book(0, 0, NONE, NONE), number);
            due("2 books then", x.count(0), number + 1);
        }
    }

    private static void bookStandsBehindTheOthers() {
        ColophonHunt x = new ColophonHunt();
        for (int b = 0; b <= 9; b++) {
            x.book(b % 3, 400 * b, 11 * b, 1450 + 61 * b);
            for (int other = 0; other <= b; other++) {
                dueBook("2 book " + other, x, other, other % 3, 400 * other, 11 * other, 1450 + 61 * other);
            }
        }
    }

    private static void bookThrowsIfThereAre10() {
        due("2 the tenth", withPlain(9).book(0, 0, NONE, NONE), 9);
        refused("2 the eleventh", ISE, () -> withPlain(10), x -> x.book(0, 0, NONE, NONE));
        refused("2 the eleventh of a full hunt", ISE, Bench::full, x -> x.book(2, 4095, 99, 1999));
    }

    private static void bookThrowsTheFirstNamedOf2() {
        refused("2 full and press", IAE, Bench::full, x -> x.book(3, 0, NONE, NONE));
        refused("2 full and letters", IAE, Bench::full, x -> x.book(0, 4096, NONE, NONE));
        refused("2 full and mould", IAE, Bench::full, x -> x.book(0, 0, 100, NONE));
        refused("2 full and year", IAE, Bench::full, x -> x.book(0, 0, NONE, 2000));
    }

    private static void bookIsUndoable() {
        undoable("2 the first", ColophonHunt::new, x -> x.book(0, 1, 2, 1500));
        undoable("2 with 6 saved states", Bench::busy, x -> x.book(0, 1, 2, 1500));
        undoable("2 the tenth", () -> withPlain(9), x -> x.book(0, 1, 2, 1500));
    }

    // ---- 3: take

    private static void takeThrowsIfThereIsNoSuchBook() {
        for (int book : new int[] {-1, 3, LEAST, GREATEST}) {
            refused("3 book " + book + " of 3", IOOBE, Bench::busy, x -> x.take(book));
        }
        refused("3 without books", IOOBE, ColophonHunt::new, x -> x.take(0));
        refused("3 book 10 of 10", IOOBE, Bench::full, x -> x.take(10));
        refused("3 book -1 of 10", IOOBE, Bench::full, x -> x.take(-1));
        refused("3 the last one, taken", IOOBE, () -> taken(withBooks("0-;1-"), 1), x -> x.take(1));
    }

    private static ColophonHunt taken(ColophonHunt x, int book) {
        x.take(book);
        return x;
    }

    private static void takeMakesNumbersLessBy1() {
        for (int book = 0; book <= 9; book++) {
            ColophonHunt x = full();
            ColophonHunt untouched = full();
            x.take(book);
            for (int b = 0; b <= 8; b++) {
                int was = b < book ? b : b + 1;
                dueBook("3 book " + book + " is out, " + was, x, b, untouched.bookOf(was, 0), untouched.bookOf(was, 1),
                    untouched.bookOf(was, 2), untouched.bookOf(was, 3));
            }
        }
    }

    private static void takeReturnsHowManyThereAreThen() {
        ColophonHunt x = withPlain(10);
        for (int left = 9; left >= 0; left--) {
            due("3 left", x.take(left % 2 == 0 ? 0 : left), left);
            due("3 books", x.count(0), left);
        }
    }

    private static void takeMakesRoomForOne() {
        ColophonHunt x = taken(withPlain(10), 4);
        due("3 room for one", x.book(2, 7, 8, 1600), 9);
        dueBook("3 behind the others", x, 9, 2, 7, 8, 1600);
        CHECKS.throwsExactly("3 room for one alone", ISE, () -> x.book(0, 0, NONE, NONE));
    }

    private static void takeIsUndoable() {
        undoable("3 the only one", () -> withBooks("2lm99y1999"), x -> x.take(0));
        undoable("3 with 6 saved states", Bench::busy, x -> x.take(0));
        undoable("3 the first of 10", Bench::full, x -> x.take(0));
        undoable("3 the last of 10", Bench::full, x -> x.take(9));
    }

    // ---- 4: crack

    private static void crackThrowsIfThereIsNoSuchBook() {
        for (int book : new int[] {-1, 3, LEAST, GREATEST}) {
            refused("4 book " + book + " of 3", IOOBE, Bench::busy, x -> x.crack(book, 0, true));
            refused("4 neither book " + book + " nor letter", IOOBE, Bench::busy, x -> x.crack(book, 12, true));
        }
        refused("4 without books", IOOBE, ColophonHunt::new, x -> x.crack(0, 0, true));
        refused("4 book 10 of 10", IOOBE, Bench::full, x -> x.crack(10, 0, true));
    }

    private static void crackThrowsIfThereIsNoSuchLetter() {
        // 31, 32, 33 and -32: a shift by these would wrap around.
        for (int letter : new int[] {-1, 12, 31, 32, 33, -32, LEAST, GREATEST}) {
            refused("4 letter " + letter, IOOBE, Bench::busy, x -> x.crack(0, letter, true));
            refused("4 letter " + letter + " heals", IOOBE, Bench::busy, x -> x.crack(0, letter, false));
        }
    }

    private static void crackReturnsWhetherItWas() {
        for (int letter = 0; letter <= 11; letter++) {
            ColophonHunt x = withBooks("0-");
            due("4 it was not, and is not", x.crack(0, letter, false), 0);
            due("4 it was not, and is", x.crack(0, letter, true), 0);
            due("4 it was, and is", x.crack(0, letter, true), 1);
            due("4 it was, and is not", x.crack(0, letter, false), 1);
            due("4 it was not any more", x.crack(0, letter, false), 0);
        }
    }

    private static void crackChangesThatLetterAlone() {
        for (int letter = 0; letter <= 11; letter++) {
            ColophonHunt x = withBooks("0-m4y1500;0abcdefghijklm4y1500");
            x.crack(0, letter, true);
            dueBook("4 letter " + letter + " alone is", x, 0, 0, 1 << letter, 4, 1500);
            dueBook("4 the other book", x, 1, 0, 4095, 4, 1500);
            x.crack(1, letter, false);
            dueBook("4 letter " + letter + " alone is not", x, 1, 0, 4095 - (1 << letter), 4, 1500);
            dueBook("4 the other book", x, 0, 0, 1 << letter, 4, 1500);
        }
        ColophonHunt last = full();
        due("4 the last of 10", last.crack(9, 11, true), 0);
        due("4 the last of 10", last.bookOf(9, 1), 511 + 2048);
    }

    private static void crackIsUndoable() {
        undoable("4 cracks", () -> withBooks("0-"), x -> x.crack(0, 11, true));
        undoable("4 heals", () -> withBooks("0l"), x -> x.crack(0, 11, false));
        undoable("4 changes nothing", () -> withBooks("0l"), x -> x.crack(0, 11, true));
        undoable("4 changes nothing", () -> withBooks("0l"), x -> x.crack(0, 10, false));
        undoable("4 changes nothing with 6 saved states", Bench::busy, x -> x.crack(0, 0, true));
    }

    // ---- 5: mould

    private static void mouldThrowsIfThereIsNoSuchBook() {
        for (int book : new int[] {-1, 3, LEAST, GREATEST}) {
            refused("5 book " + book + " of 3", IOOBE, Bench::busy, x -> x.mould(book, 5));
        }
        refused("5 without books", IOOBE, ColophonHunt::new, x -> x.mould(0, 5));
        refused("5 book 10 of 10", IOOBE, Bench::full, x -> x.mould(10, 5));
        due("5 book 9 of 10", full().mould(9, 5), 90);
    }

    private static void mouldThrowsIfOutOfRange() {
        for (int mould : new int[] {-2, 100, LEAST, GREATEST}) {
            refused("5 mould " + mould, IAE, Bench::busy, x -> x.mould(0, mould));
        }
        for (int mould : new int[] {NONE, 0, 1, 98, 99}) {
            ColophonHunt x = withBooks("1bm50y1500;1bm50y1500");
            due("5 mould " + mould, x.mould(1, mould), 50);
            dueBook("5 mould " + mould, x, 1, 1, 2, mould, 1500);
            dueBook("5 the other book", x, 0, 1, 2, 50, 1500);
        }
    }

    private static void mouldThrowsTheFirstNamedOf2() {
        refused("5 book and mould above", IOOBE, Bench::busy, x -> x.mould(3, 100));
        refused("5 book and mould below", IOOBE, Bench::busy, x -> x.mould(-1, -2));
    }

    private static void mouldReturnsThePreviousOne() {
        ColophonHunt x = withBooks("0-");
        due("5 NONE if it had none", x.mould(0, 0), NONE);
        due("5 0 is a mould", x.mould(0, 99), 0);
        due("5 the last one", x.mould(0, NONE), 99);
        due("5 NONE if it had none any more", x.mould(0, NONE), NONE);
    }

    private static void mouldIsUndoable() {
        undoable("5 changes", () -> withBooks("0-m5"), x -> x.mould(0, 6));
        undoable("5 from none", () -> withBooks("0-"), x -> x.mould(0, 0));
        undoable("5 to none", () -> withBooks("0-m0"), x -> x.mould(0, NONE));
        undoable("5 changes nothing", () -> withBooks("0-m5"), x -> x.mould(0, 5));
        undoable("5 with 6 saved states", Bench::busy, x -> x.mould(0, 6));
    }

    // ---- 6: year

    private static void yearThrowsIfThereIsNoSuchBook() {
        for (int book : new int[] {-1, 3, LEAST, GREATEST}) {
            refused("6 book " + book + " of 3", IOOBE, Bench::busy, x -> x.year(book, 1500));
        }
        refused("6 without books", IOOBE, ColophonHunt::new, x -> x.year(0, 1500));
        refused("6 book 10 of 10", IOOBE, Bench::full, x -> x.year(10, 1500));
        due("6 book 9 of 10", full().year(9, 1500), NONE);
    }

    private static void yearThrowsIfOutOfRange() {
        for (int year : new int[] {-2, 0, 1449, 2000, LEAST, GREATEST}) {
            refused("6 year " + year, IAE, Bench::busy, x -> x.year(0, year));
        }
        for (int year : new int[] {NONE, 1450, 1451, 1998, 1999}) {
            ColophonHunt x = withBooks("1bm50y1500;1bm50y1500");
            due("6 year " + year, x.year(1, year), 1500);
            dueBook("6 year " + year, x, 1, 1, 2, 50, year);
            dueBook("6 the other book", x, 0, 1, 2, 50, 1500);
        }
    }

    private static void yearThrowsTheFirstNamedOf2() {
        refused("6 book and year above", IOOBE, Bench::busy, x -> x.year(3, 2000));
        refused("6 book and year below", IOOBE, Bench::busy, x -> x.year(-1, 1449));
    }

    private static void yearReturnsThePreviousOne() {
        ColophonHunt x = withBooks("0-");
        due("6 NONE if it had none", x.year(0, 1450), NONE);
        due("6 the first one", x.year(0, 1999), 1450);
        due("6 the last one", x.year(0, NONE), 1999);
        due("6 NONE if it had none any more", x.year(0, NONE), NONE);
    }

    private static void yearIsUndoable() {
        undoable("6 changes", () -> withBooks("0-y1500"), x -> x.year(0, 1501));
        undoable("6 from none", () -> withBooks("0-"), x -> x.year(0, 1450));
        undoable("6 to none", () -> withBooks("0-y1999"), x -> x.year(0, NONE));
        undoable("6 changes nothing", () -> withBooks("0-y1500"), x -> x.year(0, 1500));
        undoable("6 with 6 saved states", Bench::busy, x -> x.year(0, 1501));
    }

    // ---- 7: press

    private static void pressThrowsIfThereIsNoSuchBook() {
        for (int book : new int[] {-1, 3, LEAST, GREATEST}) {
            refused("7 book " + book + " of 3", IOOBE, Bench::busy, x -> x.press(book, 1));
        }
        refused("7 without books", IOOBE, ColophonHunt::new, x -> x.press(0, 1));
        refused("7 book 10 of 10", IOOBE, Bench::full, x -> x.press(10, 1));
        due("7 book 9 of 10", full().press(9, 1), 0);
    }

    private static void pressThrowsIfOutOfRange() {
        for (int press : new int[] {-1, 3, LEAST, GREATEST}) {
            refused("7 press " + press, IAE, Bench::busy, x -> x.press(0, press));
        }
        for (int press = 0; press <= 2; press++) {
            ColophonHunt x = withBooks("1bm50y1500;1bm50y1500");
            due("7 press " + press, x.press(1, press), 1);
            dueBook("7 press " + press, x, 1, press, 2, 50, 1500);
            dueBook("7 the other book", x, 0, 1, 2, 50, 1500);
        }
    }

    private static void pressThrowsTheFirstNamedOf2() {
        refused("7 book and press above", IOOBE, Bench::busy, x -> x.press(3, 3));
        refused("7 book and press below", IOOBE, Bench::busy, x -> x.press(-1, -1));
    }

    private static void pressReturnsThePreviousOne() {
        ColophonHunt x = withBooks("0-");
        due("7 the least", x.press(0, 2), 0);
        due("7 the greatest", x.press(0, 1), 2);
        due("7 the same", x.press(0, 1), 1);
    }

    private static void pressIsUndoable() {
        undoable("7 changes", () -> withBooks("0-"), x -> x.press(0, 2));
        undoable("7 changes nothing", () -> withBooks("2-"), x -> x.press(0, 2));
        undoable("7 with 6 saved states", Bench::busy, x -> x.press(0, 1));
    }

    // ---- 8: date

    private static void dateGivesNoneWithoutBooks() {
        ColophonHunt x = new ColophonHunt();
        due("8 without books", x.date(), 0);
        due("8 saves also without books", x.count(6), 1);
        due("8 is undone without books", x.undo(), 0);
    }

    private static void dueDated(String text, int given, int... years) {
        ColophonHunt x = withBooks(text);
        due("8 given of " + text, x.date(), given);
        for (int b = 0; b < years.length; b++) {
            due("8 year " + b + " of " + text, x.bookOf(b, 3), years[b]);
        }
    }

    private static void dateGivesYearsToBooksWithoutOneAlone() {
        dueDated("0-y1450", 0, 1450);
        dueDated("0-y1999;1-y1450", 0, 1999, 1450);
        // The own year is the greatest or the least of two that are not the same: not dated, and left.
        dueDated("0ay1500;0-y1600", 0, 1500, 1600);
    }

    private static void dateGivesYearsToDatedBooksAlone() {
        dueDated("0-y1500;0a;0aby1500", 1, 1500, 1500, 1500);
        dueDated("0-y1500;0a;0aby1501", 0, 1500, NONE, 1501);
        dueDated("0-y1501;0a;0aby1500", 0, 1501, NONE, 1500);
        dueDated("0-", 0, NONE);
        dueDated("0-y1500;0-", 0, 1500, NONE);
    }

    private static void dateGivesTheFirstAndTheLastYearOfAll() {
        dueDated("0-;0ay1450", 1, 1450, 1450);
        dueDated("0-;0ay1451", 0, NONE, 1451);
        dueDated("0-y1999;0a", 1, 1999, 1999);
        dueDated("0-y1998;0a", 0, 1998, NONE);
    }

    private static void dateGivesYearsToAllBut2Of10() {
        ColophonHunt x = new ColophonHunt();
        for (int b = 0; b <= 9; b++) {
            x.book(1, (1 << b) - 1, NONE, b == 0 || b == 9 ? 1777 : NONE);
        }
        due("8 given", x.date(), 8);
        for (int b = 0; b <= 9; b++) {
            due("8 year of " + b, x.bookOf(b, 3), 1777);
        }
        due("8 all have one", x.date(), 0);
    }

    private static void dateLooksAheadOfTheChanges() {
        // A year that is given puts its book ahead of books of another press; those are dated, or not, without it.
        dueDated("0-y1600;0a;0aby1600;1-y1601;1a;1aby1601", 2, 1600, 1600, 1600, 1601, 1601, 1601);
        dueDated("1-y1601;1a;1ab;0-y1600;0a;0aby1600", 1, 1601, NONE, NONE, 1600, 1600, 1600);
        dueDated("0-;0ay1450;1-y1451;1a", 1, 1450, 1450, 1451, NONE);
        dueDated("1a;1aby1998;0-y1999;0a", 1, NONE, 1998, 1999, 1999);
    }

    private static void dateIsUndoable() {
        undoable("8 gives", () -> withBooks("0-y1500;0a;0aby1500"), x -> x.date());
        undoable("8 gives none", () -> withBooks("0-"), x -> x.date());
        undoable("8 without books", ColophonHunt::new, x -> x.date());
        undoable("8 with 6 saved states", Bench::busy, x -> x.date());
    }
}
