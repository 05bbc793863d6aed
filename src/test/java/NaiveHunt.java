import java.util.ArrayList;
import java.util.List;
import java.util.TreeSet;
import java.util.regex.Pattern;

/** The document's words, each by the slowest way: all orders one by one, sets of books, a pattern for the text. */
final class NaiveHunt {
    private static final Pattern TEXT = Pattern.compile(
        "[0-2](-|(?=[a-l])a?b?c?d?e?f?g?h?i?j?k?l?)(m(0|[1-9][0-9]?))?(y1(4[5-9]|[5-9][0-9])[0-9])?");
    /** With one of these behind it, each beginning of books as a text is one. */
    private static final String[] ENDS = {"", "0-", "-", "0", "1999", "999", "99", "9"};

    record Book(int press, int letters, int mould, int year) {
    }

    List<Book> books = new ArrayList<>();
    final List<List<Book>> saved = new ArrayList<>();
    String buffer = "";

    void save() {
        saved.add(new ArrayList<>(books));
        if (saved.size() > 6) {
            saved.remove(0);
        }
    }

    void undo() {
        books = saved.remove(saved.size() - 1);
    }

    static boolean isText(String text) {
        for (String part : text.split(";", -1)) {
            if (!TEXT.matcher(part).matches()) {
                return false;
            }
        }
        return true;
    }

    int firstError() {
        for (int i = 0; i < buffer.length(); i++) {
            boolean begins = false;
            for (String end : ENDS) {
                begins |= isText(buffer.substring(0, i + 1) + end);
            }
            if (!begins) {
                return i;
            }
        }
        return buffer.length();
    }

    List<Book> booksInBuffer() {
        List<Book> found = new ArrayList<>();
        for (String part : buffer.split(";", -1)) {
            int y = part.indexOf('y');
            String head = y < 0 ? part : part.substring(0, y);
            int m = head.indexOf('m');
            String letters = m < 0 ? head.substring(1) : head.substring(1, m);
            int mask = 0;
            for (char c : letters.toCharArray()) {
                mask += c == '-' ? 0 : 1 << (c - 'a');
            }
            found.add(new Book(part.charAt(0) - '0', mask, m < 0 ? -1 : Integer.parseInt(head.substring(m + 1)),
                y < 0 ? -1 : Integer.parseInt(part.substring(y + 1))));
        }
        return found;
    }

    static int ahead(Book a, Book b) {
        int sum = 0;
        boolean letter = false;
        for (int k = 0; k < 12; k++) {
            letter |= (b.letters >> k) % 2 == 1 && (a.letters >> k) % 2 == 0;
        }
        if (a.press == b.press && letter) {
            sum += 1;
        }
        if (a.press == b.press && a.mould >= 0 && b.mould >= 0 && a.mould < b.mould) {
            sum += 2;
        }
        if (a.year >= 0 && b.year >= 0 && a.year < b.year) {
            sum += 4;
        }
        return sum;
    }

    /** All orders of the books given that fit, the one with the lowest numbers first. */
    static List<int[]> orders(List<Book> books, int mask) {
        List<int[]> found = new ArrayList<>();
        extend(books, mask, new int[0], found);
        return found;
    }

    private static void extend(List<Book> books, int rest, int[] begun, List<int[]> found) {
        if (rest == 0) {
            found.add(begun);
            return;
        }
        for (int b = 0; b < books.size(); b++) {
            boolean fits = (rest >> b) % 2 == 1;
            for (int i = 0; fits && i < begun.length; i++) {
                fits = ahead(books.get(b), books.get(begun[i])) == 0;
            }
            if (fits) {
                int[] longer = java.util.Arrays.copyOf(begun, begun.length + 1);
                longer[begun.length] = b;
                extend(books, rest - (1 << b), longer, found);
            }
        }
    }

    List<int[]> orders() {
        return orders(books, (1 << books.size()) - 1);
    }

    private static int edgeYear(List<Book> books, int book, boolean isFirst) {
        TreeSet<Integer> seen = new TreeSet<>();
        TreeSet<Integer> years = new TreeSet<>();
        List<Integer> open = new ArrayList<>(List.of(book));
        while (!open.isEmpty()) {
            int b = open.remove(0);
            if (!seen.add(b)) {
                continue;
            }
            if (books.get(b).year >= 0) {
                years.add(books.get(b).year);
            }
            for (int other = 0; other < books.size(); other++) {
                Book one = books.get(isFirst ? other : b);
                Book two = books.get(isFirst ? b : other);
                if (other != b && ahead(one, two) > 0) {
                    open.add(other);
                }
            }
        }
        if (years.isEmpty()) {
            return isFirst ? 1450 : 1999;
        }
        return isFirst ? years.last() : years.first();
    }

    static boolean isDated(List<Book> books, int book) {
        return edgeYear(books, book, true) == edgeYear(books, book, false);
    }

    static int dated(List<Book> books) {
        int dated = 0;
        for (int b = 0; b < books.size(); b++) {
            dated += isDated(books, b) ? 1 : 0;
        }
        return dated;
    }

    int bookOf(int book, int what) {
        Book it = books.get(book);
        int before = 0;
        int behind = 0;
        int both = 0;
        for (Book other : books) {
            boolean isBefore = ahead(other, it) > 0;
            boolean isBehind = ahead(it, other) > 0;
            before += isBefore ? 1 : 0;
            behind += isBehind ? 1 : 0;
            both += isBefore && isBehind ? 1 : 0;
        }
        int[] all = {it.press, it.letters, it.mould, it.year, Integer.bitCount(it.letters), edgeYear(books, book, true),
            edgeYear(books, book, false), isDated(books, book) ? 1 : 0, before, behind, both};
        return all[what];
    }

    int count(int what) {
        int withYear = 0;
        int[] ofPress = new int[3];
        int contradict = 0;
        int oneWay = 0;
        for (int a = 0; a < books.size(); a++) {
            withYear += books.get(a).year >= 0 ? 1 : 0;
            ofPress[books.get(a).press]++;
            for (int b = 0; b < a; b++) {
                boolean there = ahead(books.get(a), books.get(b)) > 0;
                boolean back = ahead(books.get(b), books.get(a)) > 0;
                contradict += there && back ? 1 : 0;
                oneWay += there != back ? 1 : 0;
            }
        }
        int orders = what == 4 ? orders().size() : 0;
        int[] all = {books.size(), dated(books), withYear, contradict, orders, oneWay, saved.size(),
            ofPress[0], ofPress[1], ofPress[2]};
        return all[what];
    }

    int order(int place) {
        List<int[]> orders = orders();
        return orders.isEmpty() || place >= books.size() ? -1 : orders.get(0)[place];
    }

    int place(int book, int what) {
        int least = -1;
        int greatest = -1;
        int first = 0;
        for (int[] order : orders()) {
            for (int p = 0; p < order.length; p++) {
                if (order[p] == book) {
                    least = least < 0 ? p : Math.min(least, p);
                    greatest = Math.max(greatest, p);
                    first += p == 0 ? 1 : 0;
                }
            }
        }
        return what == 0 ? least : what == 1 ? greatest : first;
    }

    int wrong(int what) {
        for (int many = 0;; many++) {
            for (int left = 0; left < 1 << books.size(); left++) {
                int others = (1 << books.size()) - 1 - left;
                if (Integer.bitCount(left) == many && !orders(books, others).isEmpty()) {
                    return what == 0 ? many : left;
                }
            }
        }
    }

    int tells(int letter) {
        List<Book> unknown = new ArrayList<>();
        for (Book b : books) {
            unknown.add(new Book(b.press, b.letters & ~(1 << letter), b.mould, b.year));
        }
        return orders(unknown, (1 << books.size()) - 1).size() - orders().size();
    }

    int ifYear(int book, int year, int what) {
        List<Book> then = new ArrayList<>(books);
        Book b = books.get(book);
        then.set(book, new Book(b.press, b.letters, b.mould, year));
        return what == 0 ? orders(then, (1 << then.size()) - 1).size() : dated(then);
    }

    double datedShare() {
        return books.isEmpty() ? 1.0 : (double) dated(books) / books.size();
    }

    int date() {
        List<Book> then = new ArrayList<>();
        int given = 0;
        for (int i = 0; i < books.size(); i++) {
            Book b = books.get(i);
            boolean isGiven = b.year < 0 && isDated(books, i);
            given += isGiven ? 1 : 0;
            then.add(isGiven ? new Book(b.press, b.letters, b.mould, edgeYear(books, i, true)) : b);
        }
        save();
        books = then;
        return given;
    }
}
