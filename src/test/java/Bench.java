/**
 * What the tests by hand share: hunts, and calls that are refused, only look, or can be undone. The document lets the
 * calls behind an object's 512th answer what they like: what is asked here of one object stays below that.
 */
abstract class Bench {
    static final int NONE = ColophonHunt.NONE;
    static final int LEAST = Integer.MIN_VALUE;
    static final int GREATEST = Integer.MAX_VALUE;
    static final Class<IllegalArgumentException> IAE = IllegalArgumentException.class;
    static final Class<IllegalStateException> ISE = IllegalStateException.class;
    static final Class<IndexOutOfBoundsException> IOOBE = IndexOutOfBoundsException.class;
    static final Checks CHECKS = new Checks();

    /** Makes a hunt, the same each time. */
    interface Maker {
        ColophonHunt make();
    }

    interface Use {
        long answer(ColophonHunt x);
    }

    static void due(String what, long got, long want) {
        CHECKS.due(what, got, want);
    }

    static void type(ColophonHunt x, String text) {
        for (char c : text.toCharArray()) {
            x.append(c);
        }
    }

    static ColophonHunt withBooks(String text) {
        ColophonHunt x = new ColophonHunt();
        type(x, text);
        x.books();
        return x;
    }

    static ColophonHunt withBuffer(String text) {
        ColophonHunt x = new ColophonHunt();
        type(x, text);
        return x;
    }

    /** Books of press 0 that show nothing. */
    static ColophonHunt withPlain(int books) {
        ColophonHunt x = new ColophonHunt();
        for (int i = 0; i < books; i++) {
            x.book(0, 0, NONE, NONE);
        }
        return x;
    }

    /** Three books, two of which contradict each other, 6 saved states that all differ, one more dropped, and a text begun. */
    static ColophonHunt busy() {
        ColophonHunt x = withBooks("0ay1500;1bm5;2-;0cm7");
        x.take(2);
        x.crack(0, 11, true);
        x.mould(1, 99);
        x.year(1, 1999);
        x.press(1, 2);
        x.crack(1, 0, true);
        type(x, "1am");
        return x;
    }

    /** 10 books, 6 saved states and 60 characters. */
    static ColophonHunt full() {
        ColophonHunt x = new ColophonHunt();
        for (int i = 0; i < 10; i++) {
            x.book(i % 3, (1 << i) - 1, i % 4 == 0 ? NONE : 10 * i, i % 3 == 1 ? 1500 + i : NONE);
        }
        type(x, "0-;".repeat(19) + "0-m");
        return x;
    }

    static void dueBook(String what, ColophonHunt x, int book, int press, int letters, int mould, int year) {
        due(what + " press", x.bookOf(book, 0), press);
        due(what + " letters", x.bookOf(book, 1), letters);
        due(what + " mould", x.bookOf(book, 2), mould);
        due(what + " year", x.bookOf(book, 3), year);
    }

    /** The books, by the numbers that were put in. */
    static String shown(ColophonHunt x) {
        StringBuilder text = new StringBuilder();
        int size = x.count(0);
        for (int b = 0; b < size; b++) {
            for (int what = 0; what <= 3; what++) {
                text.append(what == 0 ? ";" : ",").append(x.bookOf(b, what));
            }
        }
        return text.toString();
    }

    /** The books, and what they tell, without the saved states and the buffer; 84 calls, if there are 10 books. */
    static String told(ColophonHunt x) {
        StringBuilder text = new StringBuilder(shown(x));
        for (int what = 1; what <= 9; what++) {
            text.append(what == 1 ? " " : ",").append(what == 6 ? "" : x.count(what));
        }
        int size = x.count(0);
        for (int b = 0; b < size; b++) {
            text.append(" ").append(x.bookOf(b, 5)).append("-").append(x.bookOf(b, 6)).append(" ").append(x.order(b));
        }
        if (size > 0) {
            text.append(" ").append(x.ifYear(0, 1700, 0));
        }
        return text.append(" ").append(x.wrong(1)).append(" ").append(x.tells(0)).append(" ").append(x.datedShare()).toString();
    }

    private static void dueShown(String what, String got, String want) {
        CHECKS.dueTrue(what + ": the books are " + want + ", but " + got, got.equals(want));
    }

    /** The digest leaves the saved states out, so they are brought back one by one. Both hunts are used up. */
    static void dueAlike(String what, ColophonHunt x, ColophonHunt want) {
        due(what + ": digest", x.digest(), want.digest());
        due(what + ": saved states", x.count(6), want.count(6));
        for (int left = Math.min(x.count(6), want.count(6)); left > 0; left--) {
            x.undo();
            want.undo();
            dueShown(what + ": saved state " + left, shown(x), shown(want));
            due(what + ": digest of saved state " + left, x.digest(), want.digest());
        }
        due(what + ": buffer", x.clearBuffer(), want.clearBuffer());
    }

    /** The call throws exactly that, and changes nothing. */
    static void refused(String what, Class<? extends RuntimeException> want, Maker maker, Use call) {
        ColophonHunt x = maker.make();
        CHECKS.throwsExactly(what, want, () -> call.answer(x));
        dueAlike(what, x, maker.make());
    }

    /** The call answers that, and changes nothing. */
    static void looks(String what, Maker maker, Use call, long want) {
        ColophonHunt x = maker.make();
        due(what, call.answer(x), want);
        due(what + " again", call.answer(x), want);
        dueAlike(what, x, maker.make());
    }

    /** The call saves one state, and undo brings back the books from before it. */
    static void undoable(String what, Maker maker, Use call) {
        ColophonHunt x = maker.make();
        String before = told(x);
        int saved = x.count(6);
        call.answer(x);
        due(what + " saves", x.count(6), Math.min(saved + 1, 6));
        // Looked at between the call and undo, so that nothing that was found there can be kept.
        x.digest();
        due(what + " is undone", x.undo(), Math.min(saved, 5));
        dueShown(what, told(x), before);
        ColophonHunt other = maker.make();
        for (int left = x.count(6); left > 0; left--) {
            x.undo();
            other.undo();
            dueShown(what + ": saved state " + left, shown(x), shown(other));
        }
    }

    /** The call saves no state. */
    static void notUndoable(String what, Maker maker, Use call) {
        ColophonHunt x = maker.make();
        ColophonHunt other = maker.make();
        call.answer(x);
        due(what + " saves nothing", x.count(6), other.count(6));
        for (int left = other.count(6); left > 0; left--) {
            x.undo();
            other.undo();
            dueShown(what + ": saved state " + left, shown(x), shown(other));
        }
    }
}
