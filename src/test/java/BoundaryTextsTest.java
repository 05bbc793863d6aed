/** Promises 9 to 13, and the terms that they use: each sentence that names a boundary, at it and just beyond it. */
public final class BoundaryTextsTest extends Bench {
    private static final String DIGITS = "0123456789";
    private static final String SIXTY = "0-;".repeat(19) + "0-m";

    public static void main(String[] args) {
        appendTakesCodes33To126();
        appendThrowsIfTheBufferHas60();
        appendThrowsTheFirstNamedOf2();
        appendReturnsTheNewLength();
        appendIsNotUndoable();

        clearBufferReturnsTheLengthThatItHad();
        clearBufferLeavesAnEmptyBuffer();
        clearBufferIsNotUndoable();

        firstErrorOfAnEmptyBufferIs0();
        firstErrorIsTheLengthIfThereIsNone();
        firstErrorIsTheFirstOfSeveral();
        firstErrorOf60Characters();
        textsOfAnyLengthAreBegun();
        eachSignWhereItMayStand();
        eachPairOfLettersRises();
        eachMouldWithoutALeadingZero();
        eachYearInRange();

        booksThrowsIfTheBufferIsEmpty();
        booksThrowsIfTheBufferIsNotComplete();
        booksThrowsIfTheBufferHasAnError();
        booksThrowsIfThereWouldBeMoreThan10();
        booksThrowsTheFirstNamedOf2();
        booksPutsAllBehindTheOthers();
        booksReadsTheBoundsOfEachNumber();
        booksReadsABufferOf60();
        booksClearsTheBuffer();
        booksReturnsHowManyThereAreThen();
        booksIsUndoableAsOneCall();

        undoThrowsIfThereIsNone();
        undoRestoresTheLatestAndDropsIt();
        undoLeavesTheBuffer();
        undoOfAtMost6();
        undoIsNotUndoable();
        undoAfterARefusedCall();
        looksSaveNothing();
        CHECKS.close("BoundaryTextsTest");
    }

    // ---- 9: append

    private static void appendTakesCodes33To126() {
        for (int code = 33; code <= 126; code++) {
            ColophonHunt x = new ColophonHunt();
            due("9 code " + code, x.append(code), 1);
            // Also a character that no text has is kept as it is.
            long empty = new ColophonHunt().digest();
            due("9 code " + code + " is kept", x.digest(), 31 * (empty + 1) + code);
        }
        for (int code : new int[] {32, 127, 31, 128, 0, -1, 33 + 256, 33 + 65536, LEAST, GREATEST}) {
            refused("9 code " + code, IAE, Bench::busy, x -> x.append(code));
        }
    }

    private static void appendThrowsIfTheBufferHas60() {
        due("9 the 60th", withBuffer(SIXTY.substring(0, 59)).append('7'), 60);
        refused("9 the 61st", ISE, () -> withBuffer(SIXTY), x -> x.append('7'));
        refused("9 the 61st of a full hunt", ISE, Bench::full, x -> x.append('7'));
        ColophonHunt x = withBuffer(SIXTY);
        x.clearBuffer();
        type(x, SIXTY);
        CHECKS.throwsExactly("9 the 61st once more", ISE, () -> x.append('7'));
    }

    private static void appendThrowsTheFirstNamedOf2() {
        refused("9 full and below", IAE, () -> withBuffer(SIXTY), x -> x.append(32));
        refused("9 full and above", IAE, () -> withBuffer(SIXTY), x -> x.append(127));
    }

    private static void appendReturnsTheNewLength() {
        ColophonHunt x = new ColophonHunt();
        for (int length = 1; length <= 60; length++) {
            due("9 length", x.append('~'), length);
        }
    }

    private static void appendIsNotUndoable() {
        notUndoable("9 without saved states", ColophonHunt::new, x -> x.append('0'));
        notUndoable("9 with 6 saved states", Bench::busy, x -> x.append('0'));
    }

    // ---- 10: clearBuffer

    private static void clearBufferReturnsTheLengthThatItHad() {
        due("10 empty", new ColophonHunt().clearBuffer(), 0);
        due("10 one", withBuffer("~").clearBuffer(), 1);
        due("10 full", withBuffer(SIXTY).clearBuffer(), 60);
    }

    private static void clearBufferLeavesAnEmptyBuffer() {
        ColophonHunt x = withBuffer(SIXTY);
        x.clearBuffer();
        due("10 no error", x.firstError(), 0);
        due("10 the state of a new hunt", x.digest(), new ColophonHunt().digest());
        CHECKS.throwsExactly("10 no books", IAE, () -> x.books());
        due("10 cleared again", x.clearBuffer(), 0);
        due("10 from the start", x.append('2'), 1);
        due("10 what was typed before is gone", x.firstError(), 1);
    }

    private static void clearBufferIsNotUndoable() {
        notUndoable("10 empty", ColophonHunt::new, x -> x.clearBuffer());
        notUndoable("10 with 6 saved states", Bench::busy, x -> x.clearBuffer());
        notUndoable("10 full", Bench::full, x -> x.clearBuffer());
    }

    // ---- 11: firstError

    private static void dueError(String text, int want) {
        looks("11 " + text, () -> withBuffer(text), x -> x.firstError(), want);
    }

    private static void firstErrorOfAnEmptyBufferIs0() {
        dueError("", 0);
    }

    private static void firstErrorIsTheLengthIfThereIsNone() {
        for (String text : new String[] {"0", "0-", "2l", "0abcdefghijklm99y1999", "0-;", "0-;1"}) {
            dueError(text, text.length());
        }
    }

    private static void firstErrorIsTheFirstOfSeveral() {
        dueError("~", 0);
        dueError("~0-", 0);
        dueError("3a", 0);
        dueError("0~~", 1);
        dueError("0-0-", 2);
        dueError("0ba;0ba", 2);
        dueError("0a;0ba;~", 5);
    }

    private static void firstErrorOf60Characters() {
        dueError(SIXTY, 60);
        dueError(SIXTY.substring(0, 59) + "!", 59);
        dueError("!" + SIXTY.substring(1), 0);
        dueError("~".repeat(60), 0);
    }

    /** More than 10 books, and books that would only be complete behind the 60th character. */
    private static void textsOfAnyLengthAreBegun() {
        dueError("0-;".repeat(20), 60);
        dueError("0-;".repeat(9) + "0-", 29);
        dueError("0-;".repeat(10) + "0-", 32);
        dueError("0-;".repeat(19) + "0-y", 60);
        dueError("0-;".repeat(19) + "0-;", 60);
        dueError("0-;".repeat(18) + "2lm99y", 60);
        dueError("0-;".repeat(19) + "00;", 58);
        refused("11 20 books begun, with room for none", ISE, () -> withBufferOf(full(), "0-;".repeat(19) + "0-"), x -> x.books());
        looks("11 no room for a book", () -> withBufferOf(full(), "0-"), x -> x.firstError(), 2);
    }

    private static ColophonHunt withBufferOf(ColophonHunt x, String text) {
        x.clearBuffer();
        type(x, text);
        return x;
    }

    private static void dueSigns(String begun, String signs) {
        for (char c = 33; c <= 126; c++) {
            ColophonHunt x = withBuffer(begun + c);
            due("11 " + begun + c, x.firstError(), begun.length() + (signs.indexOf(c) >= 0 ? 1 : 0));
        }
    }

    private static void eachSignWhereItMayStand() {
        for (String ahead : new String[] {"", "2bl;", "1-m7;", "0-m99y1999;"}) {
            dueSigns(ahead, "012");
            dueSigns(ahead + "0", "-abcdefghijkl");
            dueSigns(ahead + "2", "-abcdefghijkl");
            dueSigns(ahead + "0-", "my;");
            dueSigns(ahead + "0a", "bcdefghijklmy;");
            dueSigns(ahead + "0k", "lmy;");
            dueSigns(ahead + "0l", "my;");
            dueSigns(ahead + "0abcdefghijkl", "my;");
            dueSigns(ahead + "0-m", DIGITS);
            dueSigns(ahead + "0-m0", "y;");
            dueSigns(ahead + "0-m1", DIGITS + "y;");
            dueSigns(ahead + "0-m9", DIGITS + "y;");
            dueSigns(ahead + "0-m10", "y;");
            dueSigns(ahead + "0-m99", "y;");
            dueSigns(ahead + "0-y", "1");
            dueSigns(ahead + "0am5y", "1");
            dueSigns(ahead + "0-y1", "456789");
            dueSigns(ahead + "0-y14", "56789");
            dueSigns(ahead + "0-y15", DIGITS);
            dueSigns(ahead + "0-y19", DIGITS);
            dueSigns(ahead + "0-y145", DIGITS);
            dueSigns(ahead + "0-y199", DIGITS);
            dueSigns(ahead + "0-y1450", ";");
            dueSigns(ahead + "0-y1999", ";");
        }
    }

    private static void eachPairOfLettersRises() {
        for (char one = 'a'; one <= 'l'; one++) {
            for (char two = 'a'; two <= 'l'; two++) {
                ColophonHunt x = withBuffer("1" + one + two);
                due("11 letters " + one + two, x.firstError(), one < two ? 3 : 2);
            }
        }
        // The letter must be greater than the one ahead of it, not only unlike all of them.
        dueError("0ac", 3);
        dueError("0acb", 3);
        dueError("0acc", 3);
        dueError("0acd", 4);
    }

    private static void eachMouldWithoutALeadingZero() {
        for (int mould = 0; mould <= 99; mould++) {
            due("12 mould " + mould, withBooks("0-m" + mould).bookOf(0, 2), mould);
            due("12 mould " + mould + ", year", withBooks("0-m" + mould + "y1500").bookOf(0, 2), mould);
            dueError("0-m0" + mould, 4);
        }
        dueError("0-m100", 5);
        dueError("0-m999", 5);
    }

    private static void eachYearInRange() {
        for (int year = 1000; year <= 2999; year++) {
            ColophonHunt x = withBuffer("0-y" + year);
            if (year >= 1450 && year <= 1999) {
                due("11 year " + year, x.firstError(), 7);
                x.books();
                due("12 year " + year, x.bookOf(0, 3), year);
            } else {
                due("11 year " + year, x.firstError(), year > 1999 ? 3 : year < 1400 ? 4 : 5);
            }
        }
        dueError("0-y01500", 3);
        dueError("0-y15000", 7);
    }

    // ---- 12: books

    private static void booksThrowsIfTheBufferIsEmpty() {
        refused("12 a new hunt", IAE, ColophonHunt::new, x -> x.books());
        refused("12 cleared", IAE, () -> withBufferOf(busy(), ""), x -> x.books());
        refused("12 cleared by books", IAE, () -> withBooks("0a"), x -> x.books());
        refused("12 empty, with 10 books", IAE, () -> withBufferOf(full(), ""), x -> x.books());
    }

    private static void booksThrowsIfTheBufferIsNotComplete() {
        String[] begun = {"0", "0a;", "0a;1", "0am", "0-m", "0-y", "0-y1", "0-y19", "0-y199", "0-m7y", "0-;1-m", "0-;1-y145"};
        for (String text : begun) {
            refused("12 " + text, IAE, () -> withBufferOf(busy(), text), x -> x.books());
        }
        for (String text : new String[] {"0a", "0-", "0l", "0am0", "0am9", "0am99", "0-y1450", "0-y1999", "0-;1-m1"}) {
            ColophonHunt x = withBufferOf(busy(), text);
            due("12 " + text, x.books(), text.indexOf(';') < 0 ? 4 : 5);
        }
    }

    private static void booksThrowsIfTheBufferHasAnError() {
        for (String text : new String[] {"3a", "-", "0aa", "0am100", "0am01", "0-y1449", "0-y2000", "0a;;0a", ";0a", "0-~", "0-;3-"}) {
            refused("12 " + text, IAE, () -> withBufferOf(busy(), text), x -> x.books());
        }
    }

    private static void booksThrowsIfThereWouldBeMoreThan10() {
        for (int there = 0; there <= 10; there++) {
            int books = there;
            for (int more = 1; more <= 11; more++) {
                String text = "1-" + ";1-".repeat(more - 1);
                if (there + more <= 10) {
                    due("12 " + there + " and " + more, withBufferOf(withPlain(there), text).books(), there + more);
                } else {
                    refused("12 " + there + " and " + more, ISE, () -> withBufferOf(withPlain(books), text), x -> x.books());
                }
            }
        }
        refused("12 20 books", ISE, () -> withBuffer("0-" + ";0-".repeat(19)), x -> x.books());
        refused("12 a full hunt", ISE, () -> withBufferOf(full(), "0-"), x -> x.books());
    }

    private static void booksThrowsTheFirstNamedOf2() {
        refused("12 eleven, and not complete", IAE, () -> withBufferOf(full(), "0-;"), x -> x.books());
        refused("12 eleven, and an error", IAE, () -> withBufferOf(full(), "0-~"), x -> x.books());
        refused("12 twenty, and not complete", IAE, () -> withBuffer("0-;".repeat(20)), x -> x.books());
        refused("12 twenty, and an error", IAE, () -> withBuffer("0-;".repeat(19) + "0-~"), x -> x.books());
    }

    private static void booksPutsAllBehindTheOthers() {
        ColophonHunt x = withBufferOf(withBooks("2am1y1501"), "1b;0cm2;1y1500");
        CHECKS.throwsExactly("12 none of them", IAE, () -> x.books());
        due("12 none of them", x.count(0), 1);
        withBufferOf(x, "1b;0cm2;1-y1500");
        due("12 all of them", x.books(), 4);
        dueBook("12 there before", x, 0, 2, 1, 1, 1501);
        dueBook("12 first of the text", x, 1, 1, 2, NONE, NONE);
        dueBook("12 second of the text", x, 2, 0, 4, 2, NONE);
        dueBook("12 third of the text", x, 3, 1, 0, NONE, 1500);
    }

    private static void booksReadsTheBoundsOfEachNumber() {
        dueBook("12 least", withBooks("0-m0y1450"), 0, 0, 0, 0, 1450);
        dueBook("12 greatest", withBooks("2abcdefghijklm99y1999"), 0, 2, 4095, 99, 1999);
        dueBook("12 not told", withBooks("1a"), 0, 1, 1, NONE, NONE);
        dueBook("12 mould alone", withBooks("1lm10"), 0, 1, 2048, 10, NONE);
        dueBook("12 year alone", withBooks("1fy1500"), 0, 1, 32, NONE, 1500);
        // What one part tells is not left over to the next.
        dueBook("12 behind a full one", withBooks("2abcdefghijklm99y1999;0-"), 1, 0, 0, NONE, NONE);
    }

    private static void booksReadsABufferOf60() {
        String text = "0abcdefghijklm10y1450;1abcdefghijklm99y1999;2acegikm55y1700;";
        due("12 60 characters", text.length(), 60);
        refused("12 60 characters, not complete", IAE, () -> withBuffer(text), x -> x.books());
        ColophonHunt x = withBuffer(text.replace("2acegikm55", "2acegijkm55").substring(0, 60));
        due("12 60 characters", x.books(), 3);
        dueBook("12 the last of 60 characters", x, 2, 2, 1 + 4 + 16 + 64 + 256 + 512 + 1024, 55, 1700);
    }

    private static void booksClearsTheBuffer() {
        ColophonHunt x = withBuffer("0-");
        x.books();
        due("12 clears", x.clearBuffer(), 0);
        type(x, "1-");
        due("12 once more", x.books(), 2);
        dueBook("12 the second text alone", x, 1, 1, 0, NONE, NONE);
    }

    private static void booksReturnsHowManyThereAreThen() {
        due("12 one", withBuffer("0-").books(), 1);
        due("12 ten", withBuffer("0-" + ";0-".repeat(9)).books(), 10);
        due("12 one behind nine", withBufferOf(withPlain(9), "0-").books(), 10);
    }

    private static void booksIsUndoableAsOneCall() {
        undoable("12 one", () -> withBuffer("0-"), x -> x.books());
        undoable("12 ten", () -> withBuffer("0-" + ";0-".repeat(9)), x -> x.books());
        undoable("12 seven, with 6 saved states", () -> withBufferOf(busy(), "0-" + ";0-".repeat(6)), x -> x.books());
    }

    // ---- 13: undo

    private static void undoThrowsIfThereIsNone() {
        refused("13 a new hunt", ISE, ColophonHunt::new, x -> x.undo());
        refused("13 with a buffer", ISE, () -> withBuffer("0-"), x -> x.undo());
        refused("13 all undone", ISE, () -> undone(busy(), 6), x -> x.undo());
        due("13 the last one", undone(busy(), 5).undo(), 0);
    }

    private static ColophonHunt undone(ColophonHunt x, int times) {
        for (int i = 0; i < times; i++) {
            x.undo();
        }
        return x;
    }

    private static void undoRestoresTheLatestAndDropsIt() {
        ColophonHunt x = withBooks("0-");
        x.mould(0, 1);
        x.mould(0, 2);
        due("13 left", x.undo(), 2);
        due("13 the latest", x.bookOf(0, 2), 1);
        due("13 left", x.undo(), 1);
        due("13 the one ahead of it", x.bookOf(0, 2), NONE);
        due("13 left", x.undo(), 0);
        due("13 the first one", x.count(0), 0);
    }

    private static void undoLeavesTheBuffer() {
        ColophonHunt x = withBooks("0-");
        type(x, "1a;2");
        x.undo();
        due("13 as it is", x.firstError(), 4);
        due("13 as it is", x.clearBuffer(), 4);
        ColophonHunt cleared = withBooks("0-");
        cleared.undo();
        due("13 stays clear", cleared.clearBuffer(), 0);
        ColophonHunt full = full();
        full.undo();
        due("13 stays full", full.clearBuffer(), 60);
    }

    private static void undoOfAtMost6() {
        for (int calls = 1; calls <= 10; calls++) {
            ColophonHunt x = new ColophonHunt();
            for (int b = 0; b < calls; b++) {
                x.book(0, b, b, 1500 + b);
                due("13 saved", x.count(6), Math.min(b + 1, 6));
            }
            int kept = Math.min(calls, 6);
            for (int left = kept - 1; left >= 0; left--) {
                due("13 left of " + calls, x.undo(), left);
                int books = calls - kept + left;
                due("13 books of " + calls, x.count(0), books);
                if (books > 0) {
                    dueBook("13 the last of " + calls, x, books - 1, 0, books - 1, books - 1, 1499 + books);
                }
            }
            CHECKS.throwsExactly("13 no more of " + calls, ISE, () -> x.undo());
        }
        // Dropped, undone, and saved again: the rows of the saved states go round.
        ColophonHunt round = withBooks("0-m0");
        for (int mould = 1; mould <= 40; mould++) {
            round.mould(0, mould);
            if (mould % 3 == 0) {
                round.undo();
                due("13 round", round.bookOf(0, 2), mould - 1);
            }
        }
        int[] earlier = {38, 37, 35, 34, 32};
        for (int i = 0; i < earlier.length; i++) {
            due("13 left", round.undo(), 5 - i);
            due("13 round", round.bookOf(0, 2), earlier[i]);
        }
    }

    private static void undoIsNotUndoable() {
        ColophonHunt x = withBooks("0-");
        x.mould(0, 5);
        due("13 undo", x.undo(), 1);
        due("13 undo does not bring back what was undone", x.undo(), 0);
        due("13 no books", x.count(0), 0);
        refused("13 nothing to undo", ISE, () -> undone(withBooks("0-"), 1), y -> y.undo());
    }

    private static void undoAfterARefusedCall() {
        ColophonHunt x = withBooks("0-m3");
        x.mould(0, 4);
        CHECKS.throwsExactly("13 refused", IAE, () -> x.mould(0, 100));
        CHECKS.throwsExactly("13 refused", IOOBE, () -> x.take(1));
        CHECKS.throwsExactly("13 refused", IAE, () -> x.books());
        due("13 saved nothing", x.undo(), 1);
        due("13 of the call that was not refused", x.bookOf(0, 2), 3);
    }

    private static void looksSaveNothing() {
        ColophonHunt x = full();
        x.firstError();
        x.bookOf(0, 0);
        x.ahead(0, 1);
        x.count(4);
        x.order(0);
        x.place(0, 0);
        x.wrong(0);
        x.tells(0);
        x.ifYear(0, 1700, 0);
        x.datedShare();
        x.digest();
        dueAlike("13 looks", x, full());
    }
}
