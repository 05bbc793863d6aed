import java.math.BigInteger;

/** Promises 19 to 23, and the terms that they use: each sentence that names a boundary, at it and just beyond it. */
public final class BoundarySupposingTest extends Bench {
    public static void main(String[] args) {
        wrongThrowsIfWhatIsNot0Or1();
        wrongIs0IfAnOrderFits();
        wrongIs0WithoutBooks();
        wrongIsTheFewest();
        wrongIsTheLeastNumberOfSeveral();
        wrongOf10Books();
        wrongChangesNothing();

        tellsThrowsIfThereIsNoSuchLetter();
        tellsWithoutBooks();
        tellsNothingIfCrackedInNoneOrInAll();
        tellsHowManyMoreOrders();
        tellsOf10Books();
        tellsAlsoIfNoOrderFits();
        tellsChangesNothing();

        ifYearThrowsIfThereIsNoSuchBook();
        ifYearThrowsIfYearIsOutOfRange();
        ifYearThrowsIfWhatIsOutOfRange();
        ifYearThrowsTheFirstNamedOf2();
        ifYearInsteadOfItsOwn();
        ifYearOfOrders();
        ifYearOfDatedBooks();
        ifYearChangesNothing();

        datedShareIs1WithoutBooks();
        datedShareOfNoneAndOfAll();
        datedShareOfEachDivision();
        datedShareChangesNothing();

        digestOfANewHunt();
        digestWithOverflow();
        digestOfTheBuffer0To60();
        digestOfBooks0To10();
        digestOfBook0IfThereIsOne();
        digestOfSavedStates();
        digestIfNoOrderFits();
        digestOfEachShare();
        digestChangesNothing();
        CHECKS.close("BoundarySupposingTest");
    }

    // ---- 19: wrong

    private static void wrongThrowsIfWhatIsNot0Or1() {
        for (int what : new int[] {-1, 2, LEAST, GREATEST}) {
            refused("19 what " + what, IAE, Bench::busy, x -> x.wrong(what));
            refused("19 what " + what + " without books", IAE, ColophonHunt::new, x -> x.wrong(what));
        }
    }

    private static void dueWrong(String what, Maker maker, int howMany, int mask) {
        looks("19 how many, " + what, maker, x -> x.wrong(0), howMany);
        looks("19 the mask, " + what, maker, x -> x.wrong(1), mask);
    }

    private static void dueWrong(String text, int howMany, int mask) {
        dueWrong(text, () -> withBooks(text), howMany, mask);
    }

    private static void wrongIs0WithoutBooks() {
        dueWrong("without books", ColophonHunt::new, 0, 0);
    }

    private static void wrongIs0IfAnOrderFits() {
        dueWrong("0-", 0, 0);
        dueWrong("0a;0-", 0, 0);
        dueWrong("10 that are alike", () -> withPlain(10), 0, 0);
        dueWrong("10 in a row", Bench::full, 0, 0);
    }

    private static void wrongIsTheFewest() {
        dueWrong("0a;0b", 1, 1);
        dueWrong("0a;0b;0c", 2, 3);
        // The one with the greatest number is against all others, and is fewer than they are.
        dueWrong("0a;0ab;0abd;0c", 1, 8);
        dueWrong("0c;0a;0ab;0abd", 1, 1);
        dueWrong("0a;0c;0ab;0abd", 1, 2);
        // Two pairs of unlike presses.
        dueWrong("0a;1a;0b;1b", 2, 3);
    }

    private static void wrongIsTheLeastNumberOfSeveral() {
        dueWrong("0-;0a;0b", 1, 2);
        dueWrong("1-;2-;0b;0a", 1, 4);
        dueWrong("0a;0b;1a;1b", 2, 5);
        dueWrong("0a;1b;1a;0b", 2, 3);
    }

    private static ColophonHunt against(int books) {
        ColophonHunt x = new ColophonHunt();
        for (int b = 0; b < books; b++) {
            x.book(2, 1 << b, NONE, NONE);
        }
        return x;
    }

    private static void wrongOf10Books() {
        for (int books = 1; books <= 10; books++) {
            int all = books;
            dueWrong("all of " + books + " against all", () -> against(all), books - 1, (1 << (books - 1)) - 1);
        }
        Maker last = () -> {
            ColophonHunt x = new ColophonHunt();
            for (int b = 0; b <= 8; b++) {
                x.book(0, (2 << b) - 1, NONE, NONE);
            }
            x.book(0, 2048, NONE, NONE);
            return x;
        };
        dueWrong("the last of 10 against all others", last, 1, 512);
    }

    private static void wrongChangesNothing() {
        dueWrong("with 6 saved states", Bench::busy, 1, 1);
    }

    // ---- 20: tells

    private static void tellsThrowsIfThereIsNoSuchLetter() {
        for (int letter : new int[] {-1, 12, 31, 32, -32, LEAST, GREATEST}) {
            refused("20 letter " + letter, IOOBE, Bench::busy, x -> x.tells(letter));
            refused("20 letter " + letter + " without books", IOOBE, ColophonHunt::new, x -> x.tells(letter));
        }
        for (int letter = 0; letter <= 11; letter++) {
            int number = letter;
            String sign = String.valueOf((char) ('a' + letter));
            looks("20 letter " + letter, () -> withBooks("0-;0" + sign), x -> x.tells(number), 1);
        }
    }

    private static void tellsWithoutBooks() {
        for (int letter = 0; letter <= 11; letter++) {
            int number = letter;
            looks("20 without books", ColophonHunt::new, x -> x.tells(number), 0);
        }
    }

    private static void tellsNothingIfCrackedInNoneOrInAll() {
        due("20 in none", withBooks("0a;0b").tells(2), 0);
        due("20 in all", withBooks("0ac;0abc").tells(2), 0);
        due("20 in the only one", withBooks("0a").tells(0), 0);
        due("20 in all of a press", withBooks("0a;0a;1-").tells(0), 0);
    }

    private static void tellsHowManyMoreOrders() {
        due("20 the one letter", withBooks("0-;0a;0a").tells(0), 4);
        due("20 another one tells the same", withBooks("0-;0ab").tells(0), 0);
        due("20 another one tells a part", withBooks("0-;0a;0ab").tells(0), 1);
        due("20 the mould tells the same", withBooks("0-m1;0am2").tells(0), 0);
        due("20 the year tells the same", withBooks("0-y1500;0ay1501").tells(0), 0);
        due("20 of another press", withBooks("0-;1a").tells(0), 0);
    }

    private static void tellsOf10Books() {
        ColophonHunt x = withPlain(9);
        x.book(0, 2048, NONE, NONE);
        due("20 the last of 10", x.tells(11), 3628800 - 362880);
    }

    private static void tellsAlsoIfNoOrderFits() {
        due("20 a mends it", withBooks("0a;0b").tells(0), 1);
        due("20 b mends it", withBooks("0a;0b").tells(1), 1);
        due("20 none mends it", withBooks("0a;0b;0c").tells(0), 0);
        due("20 none mends years against moulds", withBooks("0am1y1501;0-m2y1500").tells(0), 0);
        ColophonHunt all = withPlain(10);
        all.mould(9, 1);
        all.mould(8, 2);
        all.crack(9, 5, true);
        due("20 none fits", all.count(4), 0);
        due("20 half of all orders of 10", all.tells(5), 1814400);
    }

    private static void tellsChangesNothing() {
        for (int letter = 0; letter <= 11; letter++) {
            int number = letter;
            looks("20 letter " + letter + " with 6 saved states", Bench::busy, x -> x.tells(number), letter == 2 ? 1 : 0);
        }
    }

    // ---- 21: ifYear

    private static void ifYearThrowsIfThereIsNoSuchBook() {
        for (int book : new int[] {-1, 3, LEAST, GREATEST}) {
            refused("21 book " + book + " of 3", IOOBE, Bench::busy, x -> x.ifYear(book, 1500, 0));
        }
        refused("21 without books", IOOBE, ColophonHunt::new, x -> x.ifYear(0, 1500, 0));
        refused("21 book 10 of 10", IOOBE, Bench::full, x -> x.ifYear(10, 1500, 0));
        due("21 book 9 of 10", withPlain(10).ifYear(9, 1500, 1), 1);
    }

    private static void ifYearThrowsIfYearIsOutOfRange() {
        for (int year : new int[] {1449, 2000, 0, NONE, -2, LEAST, GREATEST}) {
            refused("21 year " + year, IAE, Bench::busy, x -> x.ifYear(0, year, 0));
            refused("21 year " + year + " of what 1", IAE, Bench::busy, x -> x.ifYear(0, year, 1));
        }
        for (int year : new int[] {1450, 1451, 1998, 1999}) {
            looks("21 orders with " + year, () -> withBooks("0-"), x -> x.ifYear(0, year, 0), 1);
            looks("21 dated with " + year, () -> withBooks("0-"), x -> x.ifYear(0, year, 1), 1);
        }
    }

    private static void ifYearThrowsIfWhatIsOutOfRange() {
        for (int what : new int[] {-1, 2, LEAST, GREATEST}) {
            refused("21 what " + what, IAE, Bench::busy, x -> x.ifYear(0, 1500, what));
            refused("21 year and what " + what, IAE, Bench::busy, x -> x.ifYear(0, 1449, what));
        }
    }

    private static void ifYearThrowsTheFirstNamedOf2() {
        refused("21 book and year", IOOBE, Bench::busy, x -> x.ifYear(3, 2000, 0));
        refused("21 book and what", IOOBE, Bench::busy, x -> x.ifYear(-1, 1500, 2));
        refused("21 all", IOOBE, Bench::busy, x -> x.ifYear(-1, 1449, -1));
    }

    private static void dueIfYear(String text, int book, int year, int orders, int dated) {
        looks("21 orders of " + text, () -> withBooks(text), x -> x.ifYear(book, year, 0), orders);
        looks("21 dated of " + text, () -> withBooks(text), x -> x.ifYear(book, year, 1), dated);
    }

    private static void ifYearInsteadOfItsOwn() {
        dueIfYear("0ay1500;0-y1501", 0, 1500, 0, 0);
        dueIfYear("0ay1500;0-y1501", 0, 1501, 1, 2);
        dueIfYear("0ay1500;0-y1501", 0, 1502, 1, 2);
        dueIfYear("0-y1600;0a", 0, 1999, 1, 2);
        dueIfYear("0-y1999;0a", 0, 1998, 1, 1);
    }

    private static void ifYearOfOrders() {
        dueIfYear("0-y1500;1-", 1, 1499, 1, 2);
        dueIfYear("0-y1500;1-", 1, 1500, 2, 2);
        dueIfYear("0-y1500;1-", 1, 1501, 1, 2);
        dueIfYear("0-y1500;0a;2-", 1, 1499, 0, 0);
        dueIfYear("0-y1500;0a;2-", 1, 1500, 3, 2);
        due("21 all orders of 10", withPlain(10).ifYear(0, 1700, 0), 3628800);
    }

    private static void ifYearOfDatedBooks() {
        dueIfYear("0-;0a", 0, 1998, 1, 1);
        dueIfYear("0-;0a", 0, 1999, 1, 2);
        dueIfYear("0-;0a", 1, 1450, 1, 2);
        dueIfYear("0-;0a", 1, 1451, 1, 1);
        dueIfYear("0-y1500;0a;0ab", 2, 1500, 1, 3);
        dueIfYear("0-y1500;0a;0ab", 2, 1501, 1, 2);
        ColophonHunt row = new ColophonHunt();
        for (int b = 0; b <= 9; b++) {
            row.book(0, (1 << b) - 1, NONE, NONE);
        }
        due("21 all 10 by the earliest year", row.ifYear(9, 1450, 1), 10);
        due("21 one of 10", row.ifYear(9, 1451, 1), 1);
        due("21 all 10 by the latest year", row.ifYear(0, 1999, 1), 10);
        due("21 one of 10", row.ifYear(0, 1998, 1), 1);
    }

    private static void ifYearChangesNothing() {
        looks("21 orders with 6 saved states", Bench::busy, x -> x.ifYear(2, 1999, 0), 0);
        looks("21 dated with 6 saved states", Bench::busy, x -> x.ifYear(2, 1500, 1), 3);
        looks("21 orders of 10", Bench::full, x -> x.ifYear(9, 1499, 0), full().ifYear(9, 1499, 0));
    }

    // ---- 22: datedShare

    private static void dueShare(String what, double got, double want) {
        due(what, Double.doubleToLongBits(got), Double.doubleToLongBits(want));
    }

    private static void datedShareIs1WithoutBooks() {
        dueShare("22 without books", new ColophonHunt().datedShare(), 1.0);
        ColophonHunt x = withBooks("0-");
        dueShare("22 one, not dated", x.datedShare(), 0.0);
        x.take(0);
        dueShare("22 without books once more", x.datedShare(), 1.0);
    }

    private static void datedShareOfNoneAndOfAll() {
        dueShare("22 none of one", withBooks("0-").datedShare(), 0.0);
        dueShare("22 one of one", withBooks("0-y1450").datedShare(), 1.0);
        dueShare("22 none of 10", withPlain(10).datedShare(), 0.0);
        dueShare("22 the year of one against the other's", withBooks("0-y1501;0ay1500").datedShare(), 0.0);
        dueShare("22 dated without a year", withBooks("0-;0ay1450").datedShare(), 1.0);
    }

    private static void datedShareOfEachDivision() {
        for (int all = 1; all <= 10; all++) {
            ColophonHunt x = withPlain(all);
            for (int dated = 0; dated <= all; dated++) {
                dueShare("22 " + dated + " of " + all, x.datedShare(), (double) dated / all);
                if (dated < all) {
                    x.year(dated, 1600);
                }
            }
        }
    }

    private static void datedShareChangesNothing() {
        looks("22 with 6 saved states", Bench::busy, x -> Double.doubleToLongBits(x.datedShare()), Double.doubleToLongBits(1.0));
    }

    // ---- 23: digest

    /** The document's list, without an overflow until the end: two's complement of 64 bits. */
    private static final class WholeNumberHash {
        private BigInteger hash = BigInteger.valueOf(3203);

        void add(long v) {
            hash = hash.multiply(BigInteger.valueOf(31)).add(BigInteger.valueOf(v));
        }

        void add(long... values) {
            for (long v : values) {
                add(v);
            }
        }

        boolean isAboveALong() {
            return hash.bitLength() > 63;
        }

        long wrapped() {
            return hash.longValue();
        }
    }

    private static WholeNumberHash ofNewHunt() {
        WholeNumberHash hash = new WholeNumberHash();
        hash.add(0, 0, 0, 0, 1, 0, 0, 0, 0, 0);
        hash.add(0, 0);
        hash.add(0, 0, 0, 0, 0, 0, 0, 0, 0, 0, 0, 0);
        hash.add(0x3FF0000000000000L);
        return hash;
    }

    private static void digestOfANewHunt() {
        WholeNumberHash hash = ofNewHunt();
        hash.add(0);
        looks("23 a new hunt", ColophonHunt::new, x -> x.digest(), hash.wrapped());
    }

    private static void digestWithOverflow() {
        WholeNumberHash hash = ofNewHunt();
        due("23 the hash is above a long", hash.isAboveALong() ? 1 : 0, 1);
        ColophonHunt x = withBooks("1bm3y1500;1-");
        WholeNumberHash two = new WholeNumberHash();
        two.add(2, 1, 1, 0, 1, 1, 1, 0, 2, 0);
        two.add(1, 2, 3, 1500, 1, 1500, 1500, 1, 1, 0, 0, 1, 1, 0);
        two.add(1, 0, NONE, NONE, 0, 1450, 1500, 0, 0, 1, 0, 0, 0, 1);
        two.add(1, 0);
        two.add(0, 0);
        two.add(0, 1, 0, 0, 0, 0, 0, 0, 0, 0, 0, 0);
        two.add(1, 1);
        two.add(0x3FE0000000000000L);
        two.add(0);
        due("23 two books", x.digest(), two.wrapped());
    }

    private static void digestOfTheBuffer0To60() {
        ColophonHunt x = new ColophonHunt();
        for (int length = 0; length <= 60; length++) {
            WholeNumberHash hash = ofNewHunt();
            hash.add(length);
            for (int i = 0; i < length; i++) {
                hash.add(33 + (i * 7) % 94);
            }
            due("23 buffer of " + length, x.digest(), hash.wrapped());
            if (length < 60) {
                x.append(33 + (length * 7) % 94);
            }
        }
        x.clearBuffer();
        due("23 cleared", x.digest(), new ColophonHunt().digest());
        x.append(126);
        WholeNumberHash one = ofNewHunt();
        one.add(1, 126);
        due("23 what was typed before is gone", x.digest(), one.wrapped());
    }

    private static long byTheList(ColophonHunt x, String buffer) {
        WholeNumberHash hash = new WholeNumberHash();
        for (int what = 0; what <= 9; what++) {
            hash.add(x.count(what));
        }
        for (int b = 0; b < x.count(0); b++) {
            for (int what = 0; what <= 10; what++) {
                hash.add(x.bookOf(b, what));
            }
            hash.add(x.place(b, 0), x.place(b, 1), x.place(b, 2));
        }
        for (int place = 0; place < x.count(0); place++) {
            hash.add(x.order(place));
        }
        hash.add(x.wrong(0), x.wrong(1));
        for (int letter = 0; letter <= 11; letter++) {
            hash.add(x.tells(letter));
        }
        if (x.count(0) > 0) {
            hash.add(x.ifYear(0, 1700, 0), x.ifYear(0, 1700, 1));
        }
        hash.add(Double.doubleToLongBits(x.datedShare()), buffer.length());
        for (int i = 0; i < buffer.length(); i++) {
            hash.add(buffer.charAt(i));
        }
        return hash.wrapped();
    }

    private static void dueByTheList(String what, ColophonHunt x, String buffer) {
        due("23 " + what, x.digest(), byTheList(x, buffer));
    }

    /** Books of 2 presses; each digest on the way would tell if it left something over to the next one. */
    private static ColophonHunt mixed(int books) {
        ColophonHunt x = new ColophonHunt();
        for (int b = 0; b < books; b++) {
            x.book(b % 2, (1 << (b / 2)) - 1, b % 3 == 0 ? NONE : b, b % 4 == 1 ? 1690 + b : NONE);
            x.digest();
        }
        return x;
    }

    private static void digestOfBooks0To10() {
        for (int books = 0; books <= 10; books++) {
            dueByTheList("books " + books, mixed(books), "");
        }
        for (int left = 9; left >= 0; left--) {
            ColophonHunt x = mixed(10);
            for (int then = 9; then >= left; then--) {
                x.take(then / 2);
                x.digest();
            }
            dueByTheList("books left " + left, x, "");
        }
        dueByTheList("full", full(), "0-;".repeat(19) + "0-m");
    }

    private static void digestOfBook0IfThereIsOne() {
        // 1700 tells of the book 0 alone, and only the years beside it tell that it is 1700.
        for (String text : new String[] {"0-;1-y1699", "0-;1-y1700", "0-;1-y1701", "0ay1700;0-", "0-;0ay1700", "1-y1450;0a;0-"}) {
            dueByTheList(text, withBooks(text), "");
        }
    }

    private static void digestOfSavedStates() {
        ColophonHunt x = withBooks("0-");
        for (int calls = 1; calls <= 9; calls++) {
            dueByTheList("saved " + calls, x, "");
            x.date();
        }
        ColophonHunt back = withBooks("0-");
        for (int calls = 1; calls <= 9; calls++) {
            back.date();
        }
        for (int left = 5; left >= 0; left--) {
            back.undo();
            dueByTheList("left " + left, back, "");
        }
    }

    private static void digestIfNoOrderFits() {
        dueByTheList("none fits", busy(), "1am");
        dueByTheList("all against all", against(10), "");
        WholeNumberHash hash = new WholeNumberHash();
        hash.add(2, 0, 0, 1, 0, 0, 1, 2, 0, 0);
        hash.add(0, 1, NONE, NONE, 1, 1450, 1999, 0, 1, 1, 1, NONE, NONE, 0);
        hash.add(0, 2, NONE, NONE, 1, 1450, 1999, 0, 1, 1, 1, NONE, NONE, 0);
        hash.add(NONE, NONE);
        hash.add(1, 1);
        hash.add(1, 1, 0, 0, 0, 0, 0, 0, 0, 0, 0, 0);
        hash.add(0, 2);
        hash.add(0L);
        hash.add(0);
        due("23 two that contradict", withBooks("0a;0b").digest(), hash.wrapped());
    }

    private static void digestOfEachShare() {
        for (int all = 1; all <= 10; all++) {
            for (int dated = 0; dated <= all; dated++) {
                ColophonHunt x = withPlain(all);
                for (int b = 0; b < dated; b++) {
                    x.year(b, 1600);
                    x.digest();
                }
                dueByTheList(dated + " of " + all, x, "");
            }
        }
    }

    private static void digestChangesNothing() {
        looks("23 busy", Bench::busy, x -> x.digest(), busy().digest());
        looks("23 full", Bench::full, x -> x.digest(), full().digest());
    }
}
