/** Each promise by hand: ordinary inputs, the edges that the document names, and wrong inputs. */
public final class PromisesTest extends Bench {
    public static void main(String[] args) {
        newObject();
        book();
        take();
        crack();
        mould();
        year();
        press();
        date();
        append();
        clearBuffer();
        firstError();
        books();
        undo();
        bookOf();
        ahead();
        count();
        order();
        place();
        wrong();
        tells();
        ifYear();
        datedShare();
        digest();
        CHECKS.close("PromisesTest");
    }

    private static void thrown(String what, Class<? extends RuntimeException> want, ColophonHunt x, Checks.Call call) {
        long before = x.digest();
        CHECKS.throwsExactly(what, want, call);
        due(what + " changed something", x.digest(), before);
    }

    private static void newObject() {
        ColophonHunt x = new ColophonHunt();
        due("1 books", x.count(0), 0);
        due("1 saved", x.count(6), 0);
        due("1 buffer", x.clearBuffer(), 0);
        due("1 NONE", NONE, -1);
        thrown("1 undo", ISE, x, () -> x.undo());
        ColophonHunt other = new ColophonHunt();
        x.book(0, 0, 0, 1500);
        due("1 objects share nothing", other.count(0), 0);
    }

    private static void book() {
        ColophonHunt x = new ColophonHunt();
        due("2 first", x.book(0, 0, 0, 1450), 0);
        due("2 second", x.book(2, 4095, 99, 1999), 1);
        due("2 third", x.book(1, 5, NONE, NONE), 2);
        dueBook("2 first", x, 0, 0, 0, 0, 1450);
        dueBook("2 second", x, 1, 2, 4095, 99, 1999);
        dueBook("2 third", x, 2, 1, 5, NONE, NONE);
        due("2 saved", x.count(6), 3);
        int[][] wrongs = {{-1, 0, 0, 1500}, {3, 0, 0, 1500}, {0, -1, 0, 1500}, {0, 4096, 0, 1500}, {0, 0, -2, 1500},
            {0, 0, 100, 1500}, {0, 0, 0, 1449}, {0, 0, 0, 2000}, {0, 0, 0, -2}, {0, 0, 0, 0},
            {Integer.MIN_VALUE, 0, 0, 1500}, {0, Integer.MAX_VALUE, 0, 1500}};
        for (int[] w : wrongs) {
            thrown("2 out of range", IAE, x, () -> x.book(w[0], w[1], w[2], w[3]));
        }
        for (int i = 3; i < 10; i++) {
            due("2 number", x.book(0, i, NONE, NONE), i);
        }
        thrown("2 eleventh", ISE, x, () -> x.book(0, 0, NONE, NONE));
        thrown("2 eleventh, out of range", IAE, x, () -> x.book(3, 0, NONE, NONE));
    }

    private static void take() {
        ColophonHunt x = withBooks("0am1y1501;1bm2y1502;2cm3y1503;0dm4y1504");
        thrown("3 below", IOOBE, x, () -> x.take(-1));
        thrown("3 above", IOOBE, x, () -> x.take(4));
        due("3 take", x.take(1), 3);
        dueBook("3 ahead", x, 0, 0, 1, 1, 1501);
        dueBook("3 moved", x, 1, 2, 4, 3, 1503);
        dueBook("3 moved", x, 2, 0, 8, 4, 1504);
        thrown("3 gone", IOOBE, x, () -> x.bookOf(3, 0));
        due("3 saved", x.count(6), 2);
        due("3 last", x.take(2), 2);
        due("3 first", x.take(0), 1);
        dueBook("3 left", x, 0, 2, 4, 3, 1503);
        due("3 the only one", x.take(0), 0);
        thrown("3 none", IOOBE, x, () -> x.take(0));
        ColophonHunt full = new ColophonHunt();
        for (int i = 0; i < 10; i++) {
            full.book(0, i, i, NONE);
        }
        due("3 of ten", full.take(0), 9);
        dueBook("3 ninth", full, 8, 0, 9, 9, NONE);
    }

    private static void crack() {
        ColophonHunt x = withBooks("0b;0-");
        due("4 was", x.crack(0, 1, true), 1);
        due("4 same", x.bookOf(0, 1), 2);
        due("4 saved also without a change", x.count(6), 2);
        due("4 was not", x.crack(0, 11, true), 0);
        due("4 now", x.bookOf(0, 1), 2050);
        due("4 heals", x.crack(0, 1, false), 1);
        due("4 healed", x.bookOf(0, 1), 2048);
        due("4 not cracked", x.crack(1, 0, false), 0);
        due("4 none", x.bookOf(1, 1), 0);
        thrown("4 book", IOOBE, x, () -> x.crack(2, 0, true));
        thrown("4 book", IOOBE, x, () -> x.crack(-1, 0, true));
        thrown("4 letter", IOOBE, x, () -> x.crack(0, 12, true));
        thrown("4 letter", IOOBE, x, () -> x.crack(0, -1, true));
    }

    private static void mould() {
        ColophonHunt x = withBooks("0-m7;0-");
        due("5 previous", x.mould(0, 99), 7);
        due("5 none", x.mould(1, 0), NONE);
        due("5 now", x.bookOf(0, 2), 99);
        due("5 now", x.bookOf(1, 2), 0);
        due("5 to none", x.mould(0, NONE), 99);
        due("5 now none", x.bookOf(0, 2), NONE);
        due("5 saved", x.count(6), 4);
        thrown("5 book", IOOBE, x, () -> x.mould(2, 1));
        thrown("5 book first", IOOBE, x, () -> x.mould(-1, 100));
        thrown("5 above", IAE, x, () -> x.mould(0, 100));
        thrown("5 below", IAE, x, () -> x.mould(0, -2));
    }

    private static void year() {
        ColophonHunt x = withBooks("0-y1500;0-");
        due("6 previous", x.year(0, 1999), 1500);
        due("6 none", x.year(1, 1450), NONE);
        due("6 now", x.bookOf(0, 3), 1999);
        due("6 now", x.bookOf(1, 3), 1450);
        due("6 to none", x.year(0, NONE), 1999);
        due("6 now none", x.bookOf(0, 3), NONE);
        due("6 saved", x.count(6), 4);
        thrown("6 book", IOOBE, x, () -> x.year(2, 1500));
        thrown("6 book first", IOOBE, x, () -> x.year(-1, 1449));
        thrown("6 below", IAE, x, () -> x.year(0, 1449));
        thrown("6 above", IAE, x, () -> x.year(0, 2000));
        thrown("6 far below", IAE, x, () -> x.year(0, -2));
    }

    private static void press() {
        ColophonHunt x = withBooks("0-;2-");
        due("7 previous", x.press(0, 1), 0);
        due("7 previous", x.press(1, 0), 2);
        due("7 now", x.bookOf(0, 0), 1);
        due("7 now", x.bookOf(1, 0), 0);
        due("7 top", x.press(1, 2), 0);
        due("7 saved", x.count(6), 4);
        thrown("7 book", IOOBE, x, () -> x.press(2, 0));
        thrown("7 book first", IOOBE, x, () -> x.press(-1, 3));
        thrown("7 above", IAE, x, () -> x.press(0, 3));
        thrown("7 below", IAE, x, () -> x.press(0, -1));
    }

    private static void date() {
        ColophonHunt x = withBooks("0-y1600;0a;0ab;0abcy1600;0abcd");
        due("8 given", x.date(), 2);
        due("8 by both", x.bookOf(1, 3), 1600);
        due("8 by both", x.bookOf(2, 3), 1600);
        due("8 not dated", x.bookOf(4, 3), NONE);
        due("8 saved", x.count(6), 2);
        due("8 again", x.date(), 0);
        due("8 saved without a change", x.count(6), 3);
        ColophonHunt edges = withBooks("0-;0ay1450;1ay1999;1ab");
        due("8 edges", edges.date(), 2);
        due("8 the earliest", edges.bookOf(0, 3), 1450);
        due("8 the latest", edges.bookOf(3, 3), 1999);
        // The paper of one press tells nothing of a book of another press.
        ColophonHunt once = withBooks("0-m1y1600;0-m2;0-m3y1600;1-");
        due("8 once", once.date(), 1);
        due("8 other press", once.bookOf(3, 3), NONE);
        // A book with a year keeps it, whatever the others tell.
        ColophonHunt told = withBooks("0-y1700;0ay1600");
        due("8 told", told.date(), 0);
        due("8 left", told.bookOf(1, 3), 1600);
    }

    private static void append() {
        ColophonHunt x = new ColophonHunt();
        thrown("9 below", IAE, x, () -> x.append(32));
        thrown("9 above", IAE, x, () -> x.append(127));
        thrown("9 negative", IAE, x, () -> x.append(-1));
        due("9 least", x.append(33), 1);
        due("9 greatest", x.append(126), 2);
        due("9 not undoable", x.count(6), 0);
        for (int i = 3; i <= 60; i++) {
            due("9 length", x.append('0'), i);
        }
        thrown("9 full", ISE, x, () -> x.append('0'));
        thrown("9 full, wrong code", IAE, x, () -> x.append(32));
    }

    private static void clearBuffer() {
        ColophonHunt x = new ColophonHunt();
        type(x, "0-;");
        due("10 had", x.clearBuffer(), 3);
        due("10 cleared", x.clearBuffer(), 0);
        due("10 not undoable", x.count(6), 0);
        due("10 from the start", x.append('0'), 1);
    }

    private static void dueError(String text, int want) {
        ColophonHunt x = new ColophonHunt();
        type(x, text);
        due("11 " + text, x.firstError(), want);
        due("11 keeps the buffer", x.clearBuffer(), text.length());
    }

    private static void firstError() {
        String[] begun = {"", "0", "1", "2", "0-", "0a", "0l", "0abcdefghijkl", "0acl", "0a;", "0am", "0am0", "0am9",
            "0am10", "0am99", "0-m", "0-m5", "0ly", "0-y", "0-y1", "0-y14", "0-y145", "0-y1450", "0-y1999", "0-y1459",
            "0-m0y", "0-m9y", "0-m99y1500", "0-m99y1500;2", "0-;0-;0-;0-;0-;0-;0-;0-;0-;0-;0-;0-"};
        for (String text : begun) {
            dueError(text, text.length());
        }
        String[] last = {"3", "/", "a", ";", "-", "00", "0m", "0;", "0y", "0A", "0`", "0--", "0-a", "0a-", "0aa", "0ba", "0lk",
            "0an", "0a0", "0am-", "0am;", "0amy", "0am00", "0am01", "0am100", "0am1m", "0-mm", "0-y0", "0-y2", "0-y13",
            "0-y144", "0-y1a", "0-y1;", "0-y145;", "0-y19999", "0-y1500m", "0-y1500y", "0-;;", "0a;3", "0am:", "0am/",
            "0-y14:", "0-y:"};
        for (String text : last) {
            dueError(text, text.length() - 1);
            dueError(text + text, text.length() - 1);
            dueError("2cm12y1600;" + text, text.length() + 10);
        }
    }

    private static void dueIncomplete(String text) {
        ColophonHunt x = withBooks("0a");
        type(x, text);
        thrown("12 " + text, IAE, x, () -> x.books());
        due("12 keeps the buffer", x.clearBuffer(), text.length());
    }

    private static void books() {
        for (String text : new String[] {"", "0", "0-;", "0am", "0-y", "0-y1", "0-y14", "0-y145", "0a;1", "3", "0aa", "0a;;0a", "0a;0ba"}) {
            dueIncomplete(text);
        }
        ColophonHunt x = withBooks("1-");
        due("12 saved once", x.count(6), 1);
        type(x, "0acl;1-m0;2bm99;0ky1450;1-m10y1999");
        due("12 behind", x.books(), 6);
        dueBook("12", x, 0, 1, 0, NONE, NONE);
        dueBook("12", x, 1, 0, 2053, NONE, NONE);
        dueBook("12", x, 2, 1, 0, 0, NONE);
        dueBook("12", x, 3, 2, 2, 99, NONE);
        dueBook("12", x, 4, 0, 1024, NONE, 1450);
        dueBook("12", x, 5, 1, 0, 10, 1999);
        due("12 clears", x.clearBuffer(), 0);
        due("12 as one call", x.count(6), 2);
        type(x, "0-;0-;0-;0-;0-");
        thrown("12 eleven", ISE, x, () -> x.books());
        due("12 kept", x.clearBuffer(), 14);
        type(x, "0-;0-;0-;0-;0-;");
        thrown("12 eleven, not complete", IAE, x, () -> x.books());
        x.clearBuffer();
        type(x, "0-;0-;0-;2lm98y1998");
        due("12 ten", x.books(), 10);
        dueBook("12 last", x, 9, 2, 2048, 98, 1998);
        ColophonHunt many = new ColophonHunt();
        type(many, "0-;0-;0-;0-;0-;0-;0-;0-;0-;0-;0-;0-;0-;0-;0-;0-;0-;0-;0-;0-");
        thrown("12 twenty", ISE, many, () -> many.books());
        due("12 undone", x.undo(), 2);
        due("12 undone", x.undo(), 1);
        due("12 one is left", x.count(0), 1);
        due("12 the buffer stays clear", x.clearBuffer(), 0);
    }

    private static void undo() {
        ColophonHunt x = withBooks("0-");
        type(x, "1a");
        x.crack(0, 3, true);
        x.mould(0, 5);
        x.year(0, 1500);
        x.press(0, 2);
        x.date();
        due("13 saved", x.count(6), 6);
        due("13 undo date", x.undo(), 5);
        due("13 undo press", x.undo(), 4);
        dueBook("13 press", x, 0, 0, 8, 5, 1500);
        due("13 undo year", x.undo(), 3);
        dueBook("13 year", x, 0, 0, 8, 5, NONE);
        due("13 undo mould", x.undo(), 2);
        dueBook("13 mould", x, 0, 0, 8, NONE, NONE);
        due("13 undo crack", x.undo(), 1);
        dueBook("13 crack", x, 0, 0, 0, NONE, NONE);
        due("13 undo books", x.undo(), 0);
        due("13 no books", x.count(0), 0);
        thrown("13 none", ISE, x, () -> x.undo());
        due("13 the buffer is left", x.clearBuffer(), 2);
        ColophonHunt many = new ColophonHunt();
        for (int i = 0; i < 9; i++) {
            many.book(0, i, NONE, NONE);
            due("13 at most 6", many.count(6), Math.min(i + 1, 6));
        }
        for (int left = 5; left >= 0; left--) {
            due("13 left", many.undo(), left);
            due("13 books", many.count(0), left + 3);
        }
        thrown("13 the oldest are dropped", ISE, many, () -> many.undo());
        due("13 goes on", many.take(0), 2);
        due("13 undone", many.undo(), 0);
        dueBook("13 taken", many, 0, 0, 0, NONE, NONE);
        // A failed call saves nothing.
        CHECKS.throwsExactly("13 fails", IOOBE, () -> many.take(3));
        due("13 saved nothing", many.count(6), 0);
    }

    private static void bookOf() {
        ColophonHunt x = withBooks("1acm3y1500;1am4;1abcm5y1600;0-y1550;1acd");
        int[][] want = {
            {1, 5, 3, 1500, 2, 1500, 1500, 1, 1, 4, 1},
            {1, 1, 4, NONE, 1, 1500, 1500, 1, 1, 3, 1},
            {1, 7, 5, 1600, 3, 1600, 1600, 1, 4, 1, 1},
            {0, 0, NONE, 1550, 0, 1550, 1550, 1, 1, 1, 0},
            {1, 13, NONE, NONE, 3, 1600, 1600, 1, 3, 1, 1}};
        for (int b = 0; b < want.length; b++) {
            for (int what = 0; what <= 10; what++) {
                due("14 book " + b + ", " + what, x.bookOf(b, what), want[b][what]);
            }
        }
        thrown("14 book", IOOBE, x, () -> x.bookOf(5, 0));
        thrown("14 book first", IOOBE, x, () -> x.bookOf(-1, 11));
        thrown("14 what", IAE, x, () -> x.bookOf(0, 11));
        thrown("14 what", IAE, x, () -> x.bookOf(0, -1));
        // Book 2 has no year and is of another press than book 0: only book 3 is behind the year of book 1.
        ColophonHunt far = withBooks("0-y1500;1-y1510;1a;1ab");
        due("14 far first year", far.bookOf(3, 5), 1510);
        due("14 far last year", far.bookOf(0, 6), 1500);
        due("14 no year ahead", far.bookOf(2, 6), 1999);
        ColophonHunt chain = withBooks("0-m1;0am2;0-m2y1490;0am3;1a");
        due("14 and so on", chain.bookOf(0, 6), 1490);
        due("14 and so on", chain.bookOf(3, 5), 1490);
        due("14 no year", chain.bookOf(4, 5), 1450);
        due("14 no year", chain.bookOf(4, 6), 1999);
        ColophonHunt through = withBooks("0a;0abm1;0am2y1500");
        due("15 not by themselves", through.ahead(0, 2), 0);
        due("14 last year through a book that contradicts", through.bookOf(0, 6), 1500);
        ColophonHunt back = withBooks("0am1y1500;0-m2;0a");
        due("15 not by themselves", back.ahead(0, 2), 0);
        due("14 first year through a book that contradicts", back.bookOf(2, 5), 1500);
        ColophonHunt crossed = withBooks("0-y1700;0ay1600");
        due("14 first above last", crossed.bookOf(1, 5), 1700);
        due("14 first above last", crossed.bookOf(1, 6), 1600);
        due("14 not dated", crossed.bookOf(1, 7), 0);
    }

    private static void ahead() {
        ColophonHunt x = withBooks("0-m1y1500;0am2y1501;1abm3y1502;0bm0;0-m1y1500;0-y1450");
        due("15 all", x.ahead(0, 1), 7);
        due("15 not back", x.ahead(1, 0), 0);
        due("15 presses by years alone", x.ahead(0, 2), 4);
        due("15 letter", x.ahead(0, 3), 1);
        due("15 mould", x.ahead(3, 0), 2);
        due("15 letter and mould", x.ahead(3, 1), 3);
        due("15 letter back", x.ahead(1, 3), 1);
        due("15 alike", x.ahead(0, 4), 0);
        due("15 mould not told", x.ahead(5, 4), 4);
        due("15 mould not told", x.ahead(4, 5), 0);
        due("15 unlike presses without years", x.ahead(2, 3), 0);
        thrown("15 same", IAE, x, () -> x.ahead(1, 1));
        thrown("15 book", IOOBE, x, () -> x.ahead(6, 0));
        thrown("15 other", IOOBE, x, () -> x.ahead(0, -1));
        thrown("15 no such book, both the same", IOOBE, x, () -> x.ahead(6, 6));
    }

    private static void count() {
        ColophonHunt x = new ColophonHunt();
        for (int what = 0; what <= 9; what++) {
            due("16 without books " + what, x.count(what), what == 4 ? 1 : 0);
        }
        type(x, "0-y1500;0a;0abm3y1500;1-;1a;2-");
        x.books();
        int[] want = {6, 3, 2, 0, 60, 4, 1, 3, 2, 1};
        for (int what = 0; what <= 9; what++) {
            due("16 " + what, x.count(what), want[what]);
        }
        x.crack(3, 1, true);
        due("16 contradict", x.count(3), 1);
        due("16 no order", x.count(4), 0);
        due("16 one way", x.count(5), 3);
        due("16 the first two contradict", withBooks("0a;0b").count(3), 1);
        due("16 the second ahead of the first", withBooks("0a;0-").count(5), 1);
        thrown("16 below", IAE, x, () -> x.count(-1));
        thrown("16 above", IAE, x, () -> x.count(10));
        ColophonHunt full = new ColophonHunt();
        for (int i = 0; i < 10; i++) {
            full.book(0, 0, NONE, NONE);
        }
        due("16 all orders", full.count(4), 3628800);
        ColophonHunt years = withBooks("0-m5y1500;0-m6;1-");
        due("16 fits", years.count(4), 3);
    }

    private static void order() {
        ColophonHunt x = withBooks("0abc;0ab;1-;0a;0-;1a");
        int[] want = {2, 4, 3, 1, 0, 5};
        for (int place = 0; place < 6; place++) {
            due("17 place " + place, x.order(place), want[place]);
        }
        due("17 behind", x.order(6), NONE);
        due("17 far behind", x.order(Integer.MAX_VALUE), NONE);
        thrown("17 below", IAE, x, () -> x.order(-1));
        x.crack(4, 5, true);
        due("17 none fits", x.order(0), NONE);
        x.undo();
        due("17 fits again", x.order(0), 2);
        ColophonHunt none = new ColophonHunt();
        due("17 without books", none.order(0), NONE);
        ColophonHunt free = withBooks("0-;1-;2-");
        due("17 free", free.order(2), 2);
    }

    private static void place() {
        ColophonHunt x = withBooks("0a;0-;0ab;1-;0ac");
        x.take(4);
        int[][] want = {{1, 2, 0}, {0, 1, 3}, {2, 3, 0}, {0, 3, 1}};
        for (int b = 0; b < 4; b++) {
            for (int what = 0; what <= 2; what++) {
                due("18 book " + b + ", " + what, x.place(b, what), want[b][what]);
            }
        }
        thrown("18 book", IOOBE, x, () -> x.place(4, 0));
        thrown("18 book first", IOOBE, x, () -> x.place(-1, 3));
        thrown("18 what", IAE, x, () -> x.place(0, 3));
        thrown("18 what", IAE, x, () -> x.place(0, -1));
        x.crack(1, 2, true);
        due("18 none fits, least", x.place(3, 0), NONE);
        due("18 none fits, greatest", x.place(3, 1), NONE);
        due("18 none fits, first", x.place(3, 2), 0);
        // In a chain of three, the first and the last of which tell nothing of one another.
        duePlaces("0ay1500;0-;1-y1600", 1, 0, 2);
        duePlaces("1-y1600;0ay1500;0-", 2, 1, 0);
        duePlaces("0-;0ay1500;1-y1600", 0, 1, 2);
        ColophonHunt alone = withBooks("0-");
        due("18 alone", alone.place(0, 0), 0);
        due("18 alone", alone.place(0, 1), 0);
        due("18 alone", alone.place(0, 2), 1);
    }

    private static void duePlaces(String text, int... places) {
        ColophonHunt x = withBooks(text);
        for (int b = 0; b < places.length; b++) {
            due("18 least of " + text, x.place(b, 0), places[b]);
            due("18 greatest of " + text, x.place(b, 1), places[b]);
            due("18 first of " + text, x.place(b, 2), places[b] == 0 ? 1 : 0);
        }
    }

    private static void wrong() {
        ColophonHunt x = new ColophonHunt();
        due("19 without books", x.wrong(0), 0);
        due("19 without books", x.wrong(1), 0);
        type(x, "0-m1;0a;0b;0cm9");
        x.books();
        due("19 two of three", x.wrong(0), 2);
        due("19 the least number", x.wrong(1), 6);
        thrown("19 below", IAE, x, () -> x.wrong(-1));
        thrown("19 above", IAE, x, () -> x.wrong(2));
        // One book against two: the one is left out, though its number is the greatest.
        ColophonHunt one = withBooks("0a;0ab;0c");
        due("19 one", one.wrong(0), 1);
        due("19 the last", one.wrong(1), 4);
        ColophonHunt pair = withBooks("1-;0a;0b");
        due("19 of several the least", pair.wrong(1), 2);
    }

    private static void tells() {
        ColophonHunt x = withBooks("0-;0a;0ab;1a");
        due("20 a", x.tells(0), 4);
        due("20 b", x.tells(1), 4);
        due("20 c", x.tells(2), 0);
        due("20 changes nothing", x.bookOf(1, 1), 1);
        due("20 saves nothing", x.count(6), 1);
        thrown("20 below", IOOBE, x, () -> x.tells(-1));
        thrown("20 above", IOOBE, x, () -> x.tells(12));
        ColophonHunt last = withBooks("0-;0l");
        due("20 l", last.tells(11), 1);
        ColophonHunt cross = withBooks("0a;0b");
        due("20 none fits", cross.tells(0), 1);
        due("20 none fits", cross.tells(1), 1);
        due("20 without books", new ColophonHunt().tells(0), 0);
    }

    private static void ifYear() {
        ColophonHunt x = withBooks("0-;0a;0ab;1-y1600");
        due("21 orders now", x.count(4), 4);
        due("21 orders then", x.ifYear(1, 1500, 0), 2);
        due("21 dated then", x.ifYear(1, 1500, 1), 2);
        due("21 all", x.ifYear(2, 1450, 1), 4);
        due("21 all behind", x.ifYear(0, 1999, 1), 4);
        due("21 instead of its own", x.ifYear(3, 1700, 1), 1);
        due("21 changes nothing", x.bookOf(1, 3), NONE);
        due("21 saves nothing", x.count(6), 1);
        thrown("21 book", IOOBE, x, () -> x.ifYear(4, 1500, 0));
        thrown("21 book first", IOOBE, x, () -> x.ifYear(-1, 1449, 2));
        thrown("21 below", IAE, x, () -> x.ifYear(0, 1449, 0));
        thrown("21 above", IAE, x, () -> x.ifYear(0, 2000, 0));
        thrown("21 none", IAE, x, () -> x.ifYear(0, NONE, 0));
        thrown("21 what", IAE, x, () -> x.ifYear(0, 1500, 2));
        thrown("21 what", IAE, x, () -> x.ifYear(0, 1500, -1));
        ColophonHunt against = withBooks("0-y1600;0a");
        due("21 against", against.ifYear(1, 1599, 0), 0);
        due("21 against, dated", against.ifYear(1, 1599, 1), 0);
    }

    private static void dueShare(String what, double got, double want) {
        due(what, Double.doubleToLongBits(got), Double.doubleToLongBits(want));
    }

    private static void datedShare() {
        ColophonHunt x = new ColophonHunt();
        dueShare("22 without books", x.datedShare(), 1.0);
        for (int i = 0; i < 10; i++) {
            x.book(0, 0, NONE, NONE);
        }
        dueShare("22 none", x.datedShare(), 0.0);
        for (int i = 0; i < 10; i++) {
            x.year(i, 1500);
            dueShare("22 share", x.datedShare(), (i + 1) / 10.0);
        }
        dueShare("22 a third", withBooks("0-y1500;1-;2-").datedShare(), 1.0 / 3.0);
    }

    private static long byTheList(ColophonHunt x, String buffer) {
        long hash = 3203;
        for (int what = 0; what <= 9; what++) {
            hash = 31 * hash + x.count(what);
        }
        for (int b = 0; b < x.count(0); b++) {
            for (int what = 0; what <= 10; what++) {
                hash = 31 * hash + x.bookOf(b, what);
            }
            for (int what = 0; what <= 2; what++) {
                hash = 31 * hash + x.place(b, what);
            }
        }
        for (int place = 0; place < x.count(0); place++) {
            hash = 31 * hash + x.order(place);
        }
        hash = 31 * (31 * hash + x.wrong(0)) + x.wrong(1);
        for (int letter = 0; letter < 12; letter++) {
            hash = 31 * hash + x.tells(letter);
        }
        if (x.count(0) > 0) {
            hash = 31 * (31 * hash + x.ifYear(0, 1700, 0)) + x.ifYear(0, 1700, 1);
        }
        hash = 31 * hash + Double.doubleToLongBits(x.datedShare());
        hash = 31 * hash + buffer.length();
        for (char c : buffer.toCharArray()) {
            hash = 31 * hash + c;
        }
        return hash;
    }

    private static void dueDigest(String text, String buffer) {
        ColophonHunt x = text.isEmpty() ? new ColophonHunt() : withBooks(text);
        type(x, buffer);
        due("23 " + text, x.digest(), byTheList(x, buffer));
        due("23 again", x.digest(), byTheList(x, buffer));
    }

    private static void digest() {
        dueDigest("", "");
        dueDigest("", "0a~!");
        dueDigest("0a", "");
        dueDigest("0-;0ay1700", "");
        dueDigest("0a;0-y1700", "");
        dueDigest("0a;0ab;1-m5y1700;0b", "2");
        dueDigest("0-y1500;0a;0abm3y1500;1-;1a;2-", "");
        for (int years = 0; years <= 10; years++) {
            for (int all = Math.max(years, 1); all <= 10; all++) {
                ColophonHunt x = new ColophonHunt();
                for (int i = 0; i < all; i++) {
                    x.book(i % 3, i * 5, i % 4 == 0 ? NONE : i, i < years ? 1600 + i : NONE);
                }
                due("23 " + years + " of " + all, x.digest(), byTheList(x, ""));
            }
        }
    }
}
