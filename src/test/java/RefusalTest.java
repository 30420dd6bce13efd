import java.util.List;
import java.util.function.Supplier;

/**
 * Every call of the face that takes an argument, in books that are empty, full and between, with arguments round all
 * bounds: it throws what the document says there and nothing else, and a refused call changes nothing.
 */
public final class RefusalTest {
    private static final Class<? extends RuntimeException> OUTSIDE = IndexOutOfBoundsException.class;
    private static final Class<? extends RuntimeException> ARGUMENT = IllegalArgumentException.class;
    private static final Class<? extends RuntimeException> STATE = IllegalStateException.class;

    private static final int[] ONE = {Integer.MIN_VALUE, -33, -32, -2, -1, 0, 1, 2, 3, 4, 5, 6, 7, 10, 11, 12, 13, 14, 15,
        16, 17, 18, 19, 20, 21, 29, 30, 31, 32, 33, 49, 50, 51, 64, Integer.MAX_VALUE - 1, Integer.MAX_VALUE};
    private static final int[] TWO = {Integer.MIN_VALUE, -32, -1, 0, 1, 2, 10, 11, 12, 32, Integer.MAX_VALUE};

    /** What the document has thrown, of several the one named first; null for nothing. */
    interface Due {
        Class<? extends RuntimeException> of(TelegraphPrices book, int a, int b);
    }

    interface Call {
        void run(TelegraphPrices book, int a, int b);
    }

    record Row(String name, boolean two, Due due, Call call) {
    }

    private static final List<Row> ROWS = List.of(
        one("addWord", (x, a, b) -> a < 1 || a > 30 ? ARGUMENT : x.words() == 12 ? STATE : null, (x, a, b) -> x.addWord(a)),
        two("turnStandIn", (x, a, b) -> noWords(x, a, b) ? OUTSIDE : a == b ? ARGUMENT : null, (x, a, b) -> x.turnStandIn(a, b)),
        two("turnJoin", (x, a, b) -> noWords(x, a, b) ? OUTSIDE : null, (x, a, b) -> x.turnJoin(a, b)),
        one("setLimit", (x, a, b) -> a < 3 || a > 15 ? ARGUMENT : null, (x, a, b) -> x.setLimit(a)),
        one("setLeastCount", (x, a, b) -> a < 0 || a > 20 ? ARGUMENT : null, (x, a, b) -> x.setLeastCount(a)),
        one("setCoins", (x, a, b) -> a < 1 || a > 50 ? ARGUMENT : null, (x, a, b) -> x.setCoins(a)),
        one("write", (x, a, b) -> noWord(x, a) ? OUTSIDE : x.length() == 16 ? STATE : null, (x, a, b) -> x.write(a)),
        one("strike", (x, a, b) -> noPlace(x, a) ? OUTSIDE : null, (x, a, b) -> x.strike(a)),
        one("turnJoined", (x, a, b) -> dueOfTurnJoined(x, a), (x, a, b) -> x.turnJoined(a)),
        one("send", (x, a, b) -> a < 0 || a > 3 ? OUTSIDE : x.length() == 0 ? STATE : null, (x, a, b) -> x.send(a)),
        one("lettersOf", (x, a, b) -> noWord(x, a) ? OUTSIDE : null, (x, a, b) -> x.lettersOf(a)),
        one("countOf", (x, a, b) -> noWord(x, a) ? OUTSIDE : null, (x, a, b) -> x.countOf(a)),
        two("mayStandFor", (x, a, b) -> noWords(x, a, b) ? OUTSIDE : null, (x, a, b) -> x.mayStandFor(a, b)),
        two("mayJoin", (x, a, b) -> noWords(x, a, b) ? OUTSIDE : null, (x, a, b) -> x.mayJoin(a, b)),
        one("standInsOf", (x, a, b) -> noWord(x, a) ? OUTSIDE : null, (x, a, b) -> x.standInsOf(a)),
        one("wordAt", (x, a, b) -> noPlace(x, a) ? OUTSIDE : null, (x, a, b) -> x.wordAt(a)),
        one("isJoined", (x, a, b) -> noPlace(x, a) ? OUTSIDE : null, (x, a, b) -> x.isJoined(a)),
        one("priceTo", (x, a, b) -> a < 0 || a > 3 ? OUTSIDE : null, (x, a, b) -> x.priceTo(a)),
        one("cheapestWordAt", (x, a, b) -> noPlace(x, a) ? OUTSIDE : null, (x, a, b) -> x.cheapestWordAt(a)),
        one("isJoinedInCheapest", (x, a, b) -> noPlace(x, a) ? OUTSIDE : null, (x, a, b) -> x.isJoinedInCheapest(a)));

    private static final List<Supplier<TelegraphPrices>> BOOKS = List.of(
        TelegraphPrices::new,
        () -> Check.bookOf(1),
        RefusalTest::oneWordWritten,
        Check::fullBook,
        RefusalTest::pairs,
        RefusalTest::pairsThatMayBeNoMore,
        RefusalTest::fullTelegram,
        RefusalTest::fullTelegramOfPairs,
        () -> onePairAt(0),
        () -> onePairAt(14),
        RefusalTest::sent);

    public static void main(String[] args) {
        Check check = new Check();
        for (int number = 0; number < BOOKS.size(); number++) {
            for (Row row : ROWS) {
                String what = "book " + number + ": " + row.name();
                for (int a : row.two() ? TWO : ONE) {
                    for (int b : row.two() ? TWO : new int[] {0}) {
                        tryOne(check, what + " of " + a + (row.two() ? ", " + b : ""), BOOKS.get(number).get(), row, a, b);
                    }
                }
            }
        }
        check.end();
    }

    private static void tryOne(Check check, String what, TelegraphPrices book, Row row, int a, int b) {
        Class<? extends RuntimeException> due = row.due().of(book, a, b);
        if (due != null) {
            check.refuses(what, book, due, () -> row.call().run(book, a, b));
        } else {
            check.sentence(what, () -> {
                row.call().run(book, a, b);
                check.is("throws nothing", true, true);
            });
        }
    }

    private static Row one(String name, Due due, Call call) {
        return new Row(name, false, due, call);
    }

    private static Row two(String name, Due due, Call call) {
        return new Row(name, true, due, call);
    }

    private static boolean noWord(TelegraphPrices book, int word) {
        return word < 0 || word >= book.words();
    }

    private static boolean noWords(TelegraphPrices book, int one, int other) {
        return noWord(book, one) || noWord(book, other);
    }

    private static boolean noPlace(TelegraphPrices book, int place) {
        return place < 0 || place >= book.length();
    }

    private static Class<? extends RuntimeException> dueOfTurnJoined(TelegraphPrices book, int place) {
        if (noPlace(book, place) || place == book.length() - 1) {
            return OUTSIDE;
        }
        if (book.isJoined(place)) {
            return null;
        }
        boolean may = book.mayJoin(book.wordAt(place), book.wordAt(place + 1));
        boolean taken = book.isJoined(place + 1) || place > 0 && book.isJoined(place - 1);
        return may && !taken ? null : STATE;
    }

    private static TelegraphPrices oneWordWritten() {
        TelegraphPrices book = Check.bookOf(12, 3);
        book.turnStandIn(0, 1);
        book.turnJoin(0, 0);
        book.write(0);
        return book;
    }

    private static TelegraphPrices pairs() {
        TelegraphPrices book = Check.bookOf(3, 14, 5);
        book.turnStandIn(1, 2);
        book.turnJoin(0, 1);
        book.turnJoin(1, 0);
        book.turnJoin(2, 0);
        Check.write(book, 0, 1, 0, 1, 0, 1, 2);
        book.turnJoined(1);
        book.turnJoined(4);
        return book;
    }

    private static TelegraphPrices pairsThatMayBeNoMore() {
        TelegraphPrices book = pairs();
        book.turnJoin(0, 1);
        book.turnJoin(1, 0);
        book.setLeastCount(0);
        return book;
    }

    private static TelegraphPrices fullTelegram() {
        TelegraphPrices book = Check.fullBook();
        for (int place = 0; place < 16; place++) {
            book.write(place % 12);
        }
        for (int word = 0; word < 11; word++) {
            book.turnJoin(word, word + 1);
        }
        book.setLimit(3);
        return book;
    }

    private static TelegraphPrices fullTelegramOfPairs() {
        TelegraphPrices book = Check.bookOf(3, 4);
        book.turnJoin(0, 0);
        Check.writeTimes(book, 0, 16);
        for (int place = 0; place < 16; place += 2) {
            book.turnJoined(place);
        }
        return book;
    }

    private static TelegraphPrices onePairAt(int place) {
        TelegraphPrices book = Check.bookOf(3);
        book.turnJoin(0, 0);
        Check.writeTimes(book, 0, 16);
        book.turnJoined(place);
        return book;
    }

    private static TelegraphPrices sent() {
        TelegraphPrices book = fullTelegramOfPairs();
        book.send(3);
        return book;
    }
}
