/** Promises 14 to 18, and the terms that they use: each sentence that names a boundary, at it and just beyond it. */
public final class BoundaryLooksTest extends Bench {
    /** 10 books of which each tells of the next one only; see chainPart. */
    private static final int[] RISING = {0, 1, 2, 3, 4, 5, 6, 7, 8, 9};
    private static final int[] FALLING = {9, 8, 7, 6, 5, 4, 3, 2, 1, 0};
    private static final int[] MIXED = {4, 9, 1, 6, 0, 8, 3, 5, 2, 7};

    public static void main(String[] args) {
        bookOfThrowsIfThereIsNoSuchBook();
        bookOfThrowsIfWhatIsNot0To10();
        bookOfThrowsTheFirstNamedOf2();
        bookOfMouldIsNoneIfNotTold();
        bookOfYearIsNoneIfNotTold();
        bookOfLettersCracked0To12();
        firstYearIs1450IfThereIsNone();
        firstYearIsTheGreatest();
        firstYearIsItsOwnOneToo();
        firstYearOfThoseAheadAndSoOn();
        lastYearIs1999IfThereIsNone();
        lastYearIsTheLeast();
        lastYearIsItsOwnOneToo();
        lastYearOfThoseBehindAndSoOn();
        yearsWithNoLookAtWhetherAnOrderFits();
        datedIfBothAreTheSame();
        bookOfBooksAheadBehindAndAgainst();
        bookOfAheadByThemselves();
        bookOfChangesNothing();

        aheadThrowsIfThereIsNoSuchBook();
        aheadThrowsIfBothAreTheSame();
        aheadThrowsTheFirstNamedOf2();
        aheadByALetter();
        aheadByTheMould();
        aheadByTheMouldIfBothAreTold();
        aheadByTheYear();
        aheadByTheYearIfBothAreTold();
        aheadOfUnlikePressesByYearsAlone();
        aheadIsTheSum();
        aheadIs0IfItMustNot();

        countThrowsIfWhatIsNot0To9();
        countWithoutBooks();
        countOfBooks0To10();
        countOfDatedOnes();
        countOfBooksWithAYear();
        countOfPairsThatContradict();
        countOfOrdersThatFit();
        countOfOrdersIf2Contradict();
        countOfPairsOneWay();
        countOfSavedStates0To6();
        countOfBooksOfAPress();
        countChangesNothing();

        orderThrowsIfPlaceIsBelow0();
        orderIsNoneIfThereAreNotSoManyBooks();
        orderIsNoneIfNoOrderFits();
        orderIsTheLowestFirst();
        orderChangesNothing();

        placeThrowsIfThereIsNoSuchBook();
        placeThrowsIfWhatIsNot0To2();
        placeThrowsTheFirstNamedOf2();
        placeIsNoneIfNoOrderFits();
        placeOf10Books();
        placeOfTheOnlyBook();
        placeThroughOtherBooks();
        placeChangesNothing();
        CHECKS.close("BoundaryLooksTest");
    }

    // ---- 14: bookOf

    private static void bookOfThrowsIfThereIsNoSuchBook() {
        for (int book : new int[] {-1, 3, LEAST, GREATEST}) {
            refused("14 book " + book + " of 3", IOOBE, Bench::busy, x -> x.bookOf(book, 0));
        }
        refused("14 without books", IOOBE, ColophonHunt::new, x -> x.bookOf(0, 0));
        refused("14 book 10 of 10", IOOBE, Bench::full, x -> x.bookOf(10, 0));
        due("14 book 9 of 10", full().bookOf(9, 1), 511);
        due("14 book 0 of 10", full().bookOf(0, 1), 0);
    }

    private static void bookOfThrowsIfWhatIsNot0To10() {
        for (int what : new int[] {-1, 11, LEAST, GREATEST}) {
            refused("14 what " + what, IAE, Bench::busy, x -> x.bookOf(0, what));
        }
        int[] want = {2, 4095, 98, 1998, 12, 1998, 1998, 1, 0, 0, 0};
        for (int what = 0; what <= 10; what++) {
            due("14 what " + what, withBooks("2abcdefghijklm98y1998").bookOf(0, what), want[what]);
        }
    }

    private static void bookOfThrowsTheFirstNamedOf2() {
        refused("14 book and what above", IOOBE, Bench::busy, x -> x.bookOf(3, 11));
        refused("14 book and what below", IOOBE, Bench::busy, x -> x.bookOf(-1, -1));
    }

    private static void bookOfMouldIsNoneIfNotTold() {
        due("14 not told", withBooks("0-").bookOf(0, 2), NONE);
        due("14 the least", withBooks("0-m0").bookOf(0, 2), 0);
    }

    private static void bookOfYearIsNoneIfNotTold() {
        due("14 not told", withBooks("0-;0ay1450").bookOf(0, 3), NONE);
        due("14 the least", withBooks("0-y1450").bookOf(0, 3), 1450);
    }

    private static void bookOfLettersCracked0To12() {
        ColophonHunt x = withBooks("0-");
        due("14 none", x.bookOf(0, 4), 0);
        for (int letter = 0; letter <= 11; letter++) {
            x.crack(0, letter, true);
            due("14 letters", x.bookOf(0, 4), letter + 1);
            due("14 mask", x.bookOf(0, 1), (2 << letter) - 1);
        }
    }

    private static void dueFirst(String text, int book, int want) {
        due("14 first year of " + book + " in " + text, withBooks(text).bookOf(book, 5), want);
    }

    private static void dueLast(String text, int book, int want) {
        due("14 last year of " + book + " in " + text, withBooks(text).bookOf(book, 6), want);
    }

    private static void firstYearIs1450IfThereIsNone() {
        dueFirst("0-", 0, 1450);
        dueFirst("0-;0a", 1, 1450);
        dueFirst("0-y1451;0-", 1, 1450);
        dueFirst("0-y1451;1a", 1, 1450);
        dueFirst("0-;0ay1451", 0, 1450);
        dueFirst("0-y1450;0a", 1, 1450);
        dueFirst("0-y1451;0a", 1, 1451);
    }

    private static void firstYearIsTheGreatest() {
        dueFirst("0-y1500;0-y1501;0a", 2, 1501);
        dueFirst("0-y1501;0-y1500;0a", 2, 1501);
        dueFirst("0a;0-y1999;0-y1450", 0, 1999);
    }

    private static void firstYearIsItsOwnOneToo() {
        dueFirst("0-y1999", 0, 1999);
        dueFirst("0-y1500;0ay1501", 1, 1501);
        dueFirst("0-y1501;0ay1500", 1, 1501);
        dueFirst("0-y1500;0ay1500", 1, 1500);
    }

    private static void lastYearIs1999IfThereIsNone() {
        dueLast("0-", 0, 1999);
        dueLast("0-;0a", 0, 1999);
        dueLast("0-y1998;0-", 1, 1999);
        dueLast("0ay1998;1-", 1, 1999);
        dueLast("0-y1998;0a", 1, 1999);
        dueLast("0-;0ay1999", 0, 1999);
        dueLast("0-;0ay1998", 0, 1998);
    }

    private static void lastYearIsTheLeast() {
        dueLast("0-;0ay1500;0ay1501", 0, 1500);
        dueLast("0-;0ay1501;0ay1500", 0, 1500);
        dueLast("0ay1999;0ay1450;0-", 2, 1450);
    }

    private static void lastYearIsItsOwnOneToo() {
        dueLast("0-y1450", 0, 1450);
        dueLast("0-y1500;0ay1501", 0, 1500);
        dueLast("0-y1501;0ay1500", 0, 1500);
        dueLast("0-y1500;0ay1500", 0, 1500);
    }

    /** The letters of the link k: each later link's own letter, and the one that the link ahead of it does not show. */
    private static int chainPart(int k) {
        int letters = 0;
        for (int own = 0; own <= 8; own++) {
            letters |= own > k || own == k - 1 ? 1 << own : 0;
        }
        return letters;
    }

    private static ColophonHunt chain(int[] links, int firstYear, int lastYear) {
        ColophonHunt x = new ColophonHunt();
        for (int link : links) {
            x.book(0, chainPart(link), NONE, link == 0 ? firstYear : link == 9 ? lastYear : NONE);
        }
        return x;
    }

    private static int numberOf(int[] links, int link) {
        for (int b = 0; b < links.length; b++) {
            if (links[b] == link) {
                return b;
            }
        }
        return NONE;
    }

    private static void firstYearOfThoseAheadAndSoOn() {
        for (int[] links : new int[][] {RISING, FALLING, MIXED}) {
            ColophonHunt x = chain(links, 1600, NONE);
            due("14 not by themselves", x.ahead(numberOf(links, 0), numberOf(links, 9)), 0);
            for (int link = 1; link <= 9; link++) {
                due("14 of those ahead of them, " + link, x.bookOf(numberOf(links, link), 5), 1600);
            }
        }
        dueFirst("0-y1500;1-y1501;1a;1ab", 3, 1501);
        dueFirst("0am1y1500;0-m2;0a", 2, 1500);
    }

    private static void lastYearOfThoseBehindAndSoOn() {
        for (int[] links : new int[][] {RISING, FALLING, MIXED}) {
            ColophonHunt x = chain(links, NONE, 1600);
            due("14 not by themselves", x.ahead(numberOf(links, 0), numberOf(links, 9)), 0);
            for (int link = 0; link <= 8; link++) {
                due("14 of those behind them, " + link, x.bookOf(numberOf(links, link), 6), 1600);
            }
            due("14 all are dated", chain(links, 1600, 1600).count(1), 10);
        }
        dueLast("0-;0a;1-y1500;0aby1499", 0, 1499);
        dueLast("0a;0abm1;0am2y1500", 0, 1500);
    }

    private static void yearsWithNoLookAtWhetherAnOrderFits() {
        ColophonHunt x = withBooks("0ay1500;0by1600;0abm1;0abm2y1550");
        due("14 no order fits", x.count(4), 0);
        for (int b = 0; b <= 3; b++) {
            due("14 first year of " + b, x.bookOf(b, 5), 1600);
            due("14 last year of " + b, x.bookOf(b, 6), 1500);
            due("14 dated " + b, x.bookOf(b, 7), 0);
        }
        ColophonHunt same = withBooks("0ay1500;0b");
        due("14 no order fits", same.count(4), 0);
        due("14 dated by one that it contradicts", same.bookOf(1, 7), 1);
    }

    private static void datedIfBothAreTheSame() {
        due("14 no year", withBooks("0-").bookOf(0, 7), 0);
        due("14 its own", withBooks("0-y1450").bookOf(0, 7), 1);
        due("14 the same", withBooks("0-y1500;0a;0aby1500").bookOf(1, 7), 1);
        due("14 one year more", withBooks("0-y1500;0a;0aby1501").bookOf(1, 7), 0);
        due("14 one year less", withBooks("0-y1500;0a;0aby1499").bookOf(1, 7), 0);
        due("14 the earliest", withBooks("0-;0ay1450").bookOf(0, 7), 1);
        due("14 not quite the earliest", withBooks("0-;0ay1451").bookOf(0, 7), 0);
        due("14 the latest", withBooks("0-y1999;0a").bookOf(1, 7), 1);
        due("14 not quite the latest", withBooks("0-y1998;0a").bookOf(1, 7), 0);
        due("14 its own year against another", withBooks("0-y1501;0ay1500").bookOf(1, 7), 0);
    }

    private static void bookOfBooksAheadBehindAndAgainst() {
        due("14 none ahead", withBooks("0-").bookOf(0, 8), 0);
        due("14 none behind", withBooks("0-").bookOf(0, 9), 0);
        due("14 contradicts none", withBooks("0-").bookOf(0, 10), 0);
        ColophonHunt row = new ColophonHunt();
        ColophonHunt against = new ColophonHunt();
        for (int b = 0; b <= 9; b++) {
            row.book(0, (1 << b) - 1, NONE, NONE);
            against.book(0, 1 << b, NONE, NONE);
        }
        for (int b = 0; b <= 9; b++) {
            due("14 ahead of " + b, row.bookOf(b, 8), b);
            due("14 behind " + b, row.bookOf(b, 9), 9 - b);
            due("14 contradicts, " + b, row.bookOf(b, 10), 0);
            due("14 all ahead of " + b, against.bookOf(b, 8), 9);
            due("14 all behind " + b, against.bookOf(b, 9), 9);
            due("14 contradicts all, " + b, against.bookOf(b, 10), 9);
        }
    }

    private static void bookOfAheadByThemselves() {
        ColophonHunt x = chain(RISING, 1600, NONE);
        due("14 ahead of the last one by themselves", x.bookOf(9, 8), 1);
        due("14 behind the first one by themselves", x.bookOf(0, 9), 1);
    }

    private static void bookOfChangesNothing() {
        int[] want = {0, 2049, NONE, 1500, 2, 1500, 1500, 1, 1, 2, 1};
        for (int what = 0; what <= 10; what++) {
            int number = what;
            looks("14 number " + what, Bench::busy, x -> x.bookOf(0, number), want[what]);
        }
    }

    // ---- 15: ahead

    private static void dueAhead(String one, String other, int want, int back) {
        ColophonHunt x = withBooks(one + ";" + other);
        due("15 " + one + " ahead of " + other, x.ahead(0, 1), want);
        due("15 " + other + " ahead of " + one, x.ahead(1, 0), back);
        due("15 contradict each other: " + one + ", " + other, x.count(3), want != 0 && back != 0 ? 1 : 0);
    }

    private static void aheadThrowsIfThereIsNoSuchBook() {
        for (int book : new int[] {-1, 3, LEAST, GREATEST}) {
            refused("15 book " + book + " of 3", IOOBE, Bench::busy, x -> x.ahead(book, 0));
            refused("15 other " + book + " of 3", IOOBE, Bench::busy, x -> x.ahead(0, book));
        }
        refused("15 without books", IOOBE, ColophonHunt::new, x -> x.ahead(0, 1));
        refused("15 the only book", IOOBE, () -> withBooks("0-"), x -> x.ahead(0, 1));
        refused("15 other 10 of 10", IOOBE, Bench::full, x -> x.ahead(9, 10));
        refused("15 book 10 of 10", IOOBE, Bench::full, x -> x.ahead(10, 9));
        looks("15 the first and the last of 10", Bench::full, x -> x.ahead(0, 9), 1);
        looks("15 the last and the first of 10", Bench::full, x -> x.ahead(9, 0), 0);
    }

    private static void aheadThrowsIfBothAreTheSame() {
        for (int book = 0; book <= 2; book++) {
            int same = book;
            refused("15 both are " + book, IAE, Bench::busy, x -> x.ahead(same, same));
        }
        refused("15 both are the last of 10", IAE, Bench::full, x -> x.ahead(9, 9));
    }

    private static void aheadThrowsTheFirstNamedOf2() {
        refused("15 both are the same above", IOOBE, Bench::busy, x -> x.ahead(3, 3));
        refused("15 both are the same below", IOOBE, Bench::busy, x -> x.ahead(-1, -1));
        refused("15 both are 0 without books", IOOBE, ColophonHunt::new, x -> x.ahead(0, 0));
    }

    private static void aheadByALetter() {
        dueAhead("0-", "0-", 0, 0);
        dueAhead("0abcdefghijkl", "0abcdefghijkl", 0, 0);
        dueAhead("0-", "0a", 1, 0);
        dueAhead("0-", "0l", 1, 0);
        dueAhead("0abcdefghijk", "0abcdefghijkl", 1, 0);
        dueAhead("0bcdefghijkl", "0abcdefghijkl", 1, 0);
        dueAhead("0a", "0b", 1, 1);
        dueAhead("0ab", "0c", 1, 1);
    }

    private static void aheadByTheMould() {
        dueAhead("0-m0", "0-m0", 0, 0);
        dueAhead("0-m0", "0-m1", 2, 0);
        dueAhead("0-m98", "0-m99", 2, 0);
        dueAhead("0-m99", "0-m99", 0, 0);
        dueAhead("0-m9", "0-m10", 2, 0);
    }

    private static void aheadByTheMouldIfBothAreTold() {
        dueAhead("0-", "0-m0", 0, 0);
        dueAhead("0-", "0-m99", 0, 0);
        dueAhead("0-", "0-", 0, 0);
    }

    private static void aheadByTheYear() {
        dueAhead("0-y1450", "0-y1450", 0, 0);
        dueAhead("0-y1450", "0-y1451", 4, 0);
        dueAhead("0-y1998", "0-y1999", 4, 0);
        dueAhead("0-y1999", "0-y1999", 0, 0);
    }

    private static void aheadByTheYearIfBothAreTold() {
        dueAhead("0-", "0-y1450", 0, 0);
        dueAhead("0-", "0-y1999", 0, 0);
        dueAhead("0-", "1-y1999", 0, 0);
    }

    private static void aheadOfUnlikePressesByYearsAlone() {
        for (String presses : new String[] {"01", "02", "10", "12", "20", "21"}) {
            String one = presses.substring(0, 1);
            String other = presses.substring(1);
            dueAhead(one + "-m0", other + "abcdefghijklm99", 0, 0);
            dueAhead(one + "-m0y1450", other + "abcdefghijklm99y1451", 4, 0);
            dueAhead(one + "abcdefghijklm99y1450", other + "-m0y1451", 4, 0);
            dueAhead(one + "-m0y1450", other + "abcdefghijklm99y1450", 0, 0);
            dueAhead(one + "-m0y1450", other + "abcdefghijklm99", 0, 0);
        }
    }

    private static void aheadIsTheSum() {
        dueAhead("0-m1y1500", "0am2y1501", 7, 0);
        dueAhead("0-m1", "0am2", 3, 0);
        dueAhead("0-y1500", "0ay1501", 5, 0);
        dueAhead("0-m1y1500", "0-m2y1501", 6, 0);
        dueAhead("0am1y1500", "0bm2y1501", 7, 1);
        dueAhead("0am1y1501", "0bm2y1500", 3, 5);
        dueAhead("0am2y1500", "0bm1y1501", 5, 3);
        dueAhead("1am2y1501", "1-m1y1500", 0, 7);
    }

    private static void aheadIs0IfItMustNot() {
        dueAhead("2klm50y1777", "2klm50y1777", 0, 0);
        looks("15 unlike presses, one year", Bench::busy, x -> x.ahead(1, 2), 0);
        looks("15 they contradict each other", Bench::busy, x -> x.ahead(2, 0), 1);
    }

    // ---- 16: count

    private static void countThrowsIfWhatIsNot0To9() {
        for (int what : new int[] {-1, 10, LEAST, GREATEST}) {
            refused("16 what " + what, IAE, Bench::busy, x -> x.count(what));
            refused("16 what " + what + " without books", IAE, ColophonHunt::new, x -> x.count(what));
        }
    }

    private static void countWithoutBooks() {
        int[] want = {0, 0, 0, 0, 1, 0, 0, 0, 0, 0};
        for (int what = 0; what <= 9; what++) {
            int number = what;
            looks("16 without books " + what, ColophonHunt::new, x -> x.count(number), want[what]);
        }
        ColophonHunt emptied = withBooks("0a;0b");
        due("16 none fits", emptied.count(4), 0);
        emptied.take(0);
        due("16 one fits", emptied.count(4), 1);
        emptied.take(0);
        due("16 1 without books once more", emptied.count(4), 1);
    }

    private static void countOfBooks0To10() {
        for (int books = 0; books <= 10; books++) {
            due("16 books", withPlain(books).count(0), books);
        }
    }

    private static void countOfDatedOnes() {
        due("16 none is dated", withPlain(10).count(1), 0);
        due("16 by another one", withBooks("0-;0ay1450").count(1), 2);
        due("16 not by one year more", withBooks("0-;0ay1451").count(1), 1);
        due("16 not with a year against another", withBooks("0-y1501;0ay1500").count(1), 0);
        due("16 all 10", chain(MIXED, 1777, 1777).count(1), 10);
    }

    private static void countOfBooksWithAYear() {
        ColophonHunt x = withPlain(10);
        due("16 no years", x.count(2), 0);
        for (int b = 0; b <= 9; b++) {
            x.year(b, b % 2 == 0 ? 1450 : 1999);
            due("16 years", x.count(2), b + 1);
        }
        x.year(9, NONE);
        due("16 one less", x.count(2), 9);
        due("16 dated without a year of its own", withBooks("0-;0ay1450").count(2), 1);
    }

    private static void countOfPairsThatContradict() {
        due("16 one book", withPlain(1).count(3), 0);
        due("16 none", withPlain(10).count(3), 0);
        ColophonHunt x = new ColophonHunt();
        for (int b = 0; b <= 9; b++) {
            x.book(1, 1 << b, NONE, NONE);
            due("16 all pairs", x.count(3), b * (b + 1) / 2);
            due("16 no pair one way", x.count(5), 0);
        }
        due("16 years against letters", withBooks("0-y1501;0ay1500").count(3), 1);
        due("16 moulds against letters", withBooks("0-m1;0am0").count(3), 1);
        due("16 years against moulds", withBooks("0-m0y1501;0-m1y1500").count(3), 1);
        due("16 not of unlike presses", withBooks("0-m0y1501;1-m1y1500").count(3), 0);
    }

    private static void countOfOrdersThatFit() {
        int factorial = 1;
        for (int books = 1; books <= 10; books++) {
            factorial = factorial * books;
            due("16 all orders of " + books, withPlain(books).count(4), factorial);
        }
        ColophonHunt row = new ColophonHunt();
        for (int b = 0; b <= 9; b++) {
            row.book(0, (1 << b) - 1, NONE, NONE);
            due("16 one order alone", row.count(4), 1);
        }
        row.crack(9, 8, false);
        due("16 the last two are alike", row.count(4), 2);
        due("16 equal moulds and years", withBooks("0-m5y1500;0-m5y1500").count(4), 2);
    }

    private static void countOfOrdersIf2Contradict() {
        due("16 none", withBooks("0a;0b").count(4), 0);
        due("16 none with a third book", withBooks("0a;1-;0b").count(4), 0);
        due("16 they contradict by years", withBooks("0-m1y1500;0-m0y1501;2-;2-;2-;2-;2-;2-;2-;2-").count(4), 0);
        due("16 equal years", withBooks("0-m1y1500;0-m0y1500").count(4), 1);
    }

    private static void countOfPairsOneWay() {
        due("16 one book", withPlain(1).count(5), 0);
        due("16 none of 10", withPlain(10).count(5), 0);
        ColophonHunt x = new ColophonHunt();
        for (int b = 0; b <= 9; b++) {
            x.book(b % 3, 0, NONE, 1999 - b);
            due("16 all pairs one way", x.count(5), b * (b + 1) / 2);
            due("16 no pair contradicts", x.count(3), 0);
        }
        due("16 both ways is not one way", withBooks("0a;0b;0abc").count(5), 2);
    }

    private static void countOfSavedStates0To6() {
        ColophonHunt x = new ColophonHunt();
        for (int calls = 0; calls <= 9; calls++) {
            due("16 saved", x.count(6), Math.min(calls, 6));
            x.date();
        }
    }

    private static void countOfBooksOfAPress() {
        for (int press = 0; press <= 2; press++) {
            ColophonHunt x = new ColophonHunt();
            for (int books = 0; books <= 10; books++) {
                for (int other = 0; other <= 2; other++) {
                    due("16 press " + other, x.count(7 + other), other == press ? books : 0);
                }
                if (books < 10) {
                    x.book(press, 0, NONE, NONE);
                }
            }
        }
        ColophonHunt all = full();
        due("16 press 0", all.count(7), 4);
        due("16 press 1", all.count(8), 3);
        due("16 press 2", all.count(9), 3);
    }

    private static void countChangesNothing() {
        int[] want = {3, 3, 2, 1, 0, 1, 6, 2, 0, 1};
        for (int what = 0; what <= 9; what++) {
            int number = what;
            looks("16 number " + what, Bench::busy, x -> x.count(number), want[what]);
        }
    }

    // ---- 17: order

    private static void orderThrowsIfPlaceIsBelow0() {
        for (int place : new int[] {-1, -2, LEAST}) {
            refused("17 place " + place, IAE, Bench::full, x -> x.order(place));
            refused("17 place " + place + ", no order fits", IAE, Bench::busy, x -> x.order(place));
            refused("17 place " + place + ", without books", IAE, ColophonHunt::new, x -> x.order(place));
        }
    }

    private static void orderIsNoneIfThereAreNotSoManyBooks() {
        looks("17 without books", ColophonHunt::new, x -> x.order(0), NONE);
        for (int books = 1; books <= 10; books++) {
            int last = books - 1;
            looks("17 the last of " + books, () -> withPlain(last + 1), x -> x.order(last), last);
            looks("17 behind the last of " + books, () -> withPlain(last + 1), x -> x.order(last + 1), NONE);
        }
        for (int place : new int[] {10, 11, 31, 32, 33, GREATEST}) {
            looks("17 place " + place + " of 10", () -> withPlain(10), x -> x.order(place), NONE);
        }
    }

    private static void orderIsNoneIfNoOrderFits() {
        for (int place = 0; place <= 3; place++) {
            int at = place;
            looks("17 none fits", Bench::busy, x -> x.order(at), NONE);
        }
        ColophonHunt x = withBooks("0a;1-;0b");
        due("17 two contradict", x.order(0), NONE);
        x.crack(2, 0, true);
        due("17 they don't any more", x.order(0), 0);
        due("17 they don't any more", x.order(2), 2);
    }

    private static void dueOrder(String text, int... want) {
        ColophonHunt x = withBooks(text);
        for (int place = 0; place < want.length; place++) {
            due("17 place " + place + " of " + text, x.order(place), want[place]);
        }
        due("17 behind all of " + text, x.order(want.length), NONE);
    }

    private static void orderIsTheLowestFirst() {
        dueOrder("0-", 0);
        dueOrder("0-;0-;0-", 0, 1, 2);
        dueOrder("0a;0-", 1, 0);
        dueOrder("0a;1-;0-", 1, 2, 0);
        dueOrder("0-y1502;1-;2-y1501;0-y1500;0-", 1, 3, 2, 0, 4);
        ColophonHunt falling = new ColophonHunt();
        for (int b = 0; b <= 9; b++) {
            falling.book(b % 3, 0, NONE, 1999 - b);
        }
        for (int place = 0; place <= 9; place++) {
            due("17 falling numbers", falling.order(place), 9 - place);
        }
    }

    private static void orderChangesNothing() {
        int[] want = {0, 1, 2, 3, 4, 5, 6, 7, 8, 9};
        for (int place = 0; place <= 9; place++) {
            int at = place;
            looks("17 place " + place, Bench::full, x -> x.order(at), want[place]);
        }
    }

    // ---- 18: place

    private static void placeThrowsIfThereIsNoSuchBook() {
        for (int book : new int[] {-1, 3, LEAST, GREATEST}) {
            refused("18 book " + book + " of 3", IOOBE, Bench::busy, x -> x.place(book, 0));
        }
        refused("18 without books", IOOBE, ColophonHunt::new, x -> x.place(0, 2));
        refused("18 book 10 of 10", IOOBE, Bench::full, x -> x.place(10, 0));
        due("18 book 9 of 10", withPlain(10).place(9, 1), 9);
    }

    private static void placeThrowsIfWhatIsNot0To2() {
        for (int what : new int[] {-1, 3, LEAST, GREATEST}) {
            refused("18 what " + what, IAE, Bench::busy, x -> x.place(0, what));
            refused("18 what " + what + " of a hunt that fits", IAE, Bench::full, x -> x.place(0, what));
        }
    }

    private static void placeThrowsTheFirstNamedOf2() {
        refused("18 book and what above", IOOBE, Bench::busy, x -> x.place(3, 3));
        refused("18 book and what below", IOOBE, Bench::busy, x -> x.place(-1, -1));
    }

    private static void placeIsNoneIfNoOrderFits() {
        for (int b = 0; b <= 2; b++) {
            int book = b;
            looks("18 least, none fits", Bench::busy, x -> x.place(book, 0), NONE);
            looks("18 greatest, none fits", Bench::busy, x -> x.place(book, 1), NONE);
            looks("18 first, none fits", Bench::busy, x -> x.place(book, 2), 0);
        }
        // Also of a book that nothing must be ahead of, and whose others would fit.
        ColophonHunt x = withBooks("1-;0a;0b");
        due("18 least of one that is free", x.place(0, 0), NONE);
        due("18 greatest of one that is free", x.place(0, 1), NONE);
        due("18 first, of one that is free", x.place(0, 2), 0);
    }

    private static void placeOf10Books() {
        ColophonHunt free = withPlain(10);
        ColophonHunt row = new ColophonHunt();
        ColophonHunt star = new ColophonHunt();
        for (int b = 0; b <= 9; b++) {
            row.book(0, (1 << (9 - b)) - 1, NONE, NONE);
            star.book(0, b == 4 ? 0 : 1, NONE, NONE);
        }
        for (int b = 0; b <= 9; b++) {
            duePlace("18 free", free, b, 0, 9, 362880);
            duePlace("18 in a row", row, b, 9 - b, 9 - b, b == 9 ? 1 : 0);
            duePlace("18 behind one", star, b, b == 4 ? 0 : 1, b == 4 ? 0 : 9, b == 4 ? 362880 : 0);
        }
    }

    private static void duePlace(String what, ColophonHunt x, int book, int least, int greatest, int first) {
        due(what + ", least of " + book, x.place(book, 0), least);
        due(what + ", greatest of " + book, x.place(book, 1), greatest);
        due(what + ", first " + book, x.place(book, 2), first);
    }

    private static void placeOfTheOnlyBook() {
        duePlace("18 the only one", withBooks("0-"), 0, 0, 0, 1);
        ColophonHunt two = withBooks("0-;1-");
        duePlace("18 of two", two, 0, 0, 1, 1);
        duePlace("18 of two", two, 1, 0, 1, 1);
    }

    private static void placeThroughOtherBooks() {
        // The first and the last one tell nothing of one another, nor of most others: the books between them do.
        String[] row = {"0-", "0ay1500", "1-y1501", "2ly1502", "1ay1503", "2ly1504", "0ay1505", "2ly1506", "1aby1507", "1abc"};
        for (int[] links : new int[][] {RISING, FALLING, MIXED}) {
            StringBuilder text = new StringBuilder();
            for (int b = 0; b <= 4; b++) {
                text.append(b == 0 ? "" : ";").append(row[links[b]]);
            }
            ColophonHunt x = withBooks(text.toString());
            text.setLength(0);
            for (int b = 5; b <= 9; b++) {
                text.append(b == 5 ? "" : ";").append(row[links[b]]);
            }
            type(x, text.toString());
            x.books();
            due("18 one order alone", x.count(4), 1);
            due("18 the first one is not ahead of the last one", x.ahead(numberOf(links, 0), numberOf(links, 9)), 0);
            for (int b = 0; b <= 9; b++) {
                duePlace("18 through others", x, b, links[b], links[b], links[b] == 0 ? 1 : 0);
            }
        }
    }

    private static void placeChangesNothing() {
        looks("18 least", () -> withBooks("0a;1-;0-"), x -> x.place(0, 0), 1);
        looks("18 greatest", () -> withBooks("0a;1-;0-"), x -> x.place(0, 1), 2);
        looks("18 first", () -> withBooks("0a;1-;0-"), x -> x.place(1, 2), 1);
    }
}
