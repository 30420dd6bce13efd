/** The terms of the book, and promises 1 to 7: each sentence at its boundary and one beyond it. */
public final class BookBoundaryTest {
    private static final int MIN = Integer.MIN_VALUE;
    private static final int MAX = Integer.MAX_VALUE;

    public static void main(String[] args) {
        Check check = new Check();
        newObject(check);
        addWord(check);
        turnStandIn(check);
        turnStandInTurns(check);
        turnJoin(check);
        turnJoinTurns(check);
        setLimit(check);
        setLeastCount(check);
        setCoins(check);
        check.end();
    }

    private static void newObject(Check check) {
        check.sentence("1: creates a book without words", () -> {
            TelegraphPrices book = new TelegraphPrices();
            check.is("words()", book.words(), 0);
            check.outside("lettersOf(0)", book, () -> book.lettersOf(0));
            check.outside("write(0)", book, () -> book.write(0));
            check.is("the first word", book.addWord(1), 0);
        });
        check.sentence("1: with an empty telegram", () -> {
            TelegraphPrices book = new TelegraphPrices();
            check.is("length()", book.length(), 0);
            check.outside("wordAt(0)", book, () -> book.wordAt(0));
            check.outside("strike(0)", book, () -> book.strike(0));
        });
        check.sentence("Terms: limit 10, least count 5, coins 2, at first", () -> {
            TelegraphPrices book = new TelegraphPrices();
            check.is("limit()", book.limit(), 10);
            check.is("leastCount()", book.leastCount(), 5);
            check.is("coins()", book.coins(), 2);
        });
        check.sentence("1: nothing is sent yet", () -> {
            TelegraphPrices book = new TelegraphPrices();
            check.is("sent()", book.sent(), 0);
            check.is("earned()", book.earned(), 0);
            check.isDouble("meanCost()", book.meanCost(), 0.0);
        });
        check.sentence("1: a new object knows nothing of one before", () -> {
            TelegraphPrices one = Check.fullBook();
            Check.writeTimes(one, 0, 16);
            one.setLimit(3);
            one.send(0);
            Check.writeTimes(one, 0, 16);
            check.isText("a second object", Check.everythingOf(new TelegraphPrices()),
                "limit 10 least 5 coins 2 sent 0 earned 0 words telegram count 0 price 0 cheapest 0"
                + " saves 0 wordings 1 best -1 mean 0.0 digest " + new TelegraphPrices().digest());
        });
    }

    private static void addWord(Check check) {
        check.sentence("2: throws if letters is not 1 to 30: too small", () -> {
            TelegraphPrices book = new TelegraphPrices();
            check.badArgument("addWord(0)", book, () -> book.addWord(0));
            check.badArgument("addWord(-1)", book, () -> book.addWord(-1));
            check.badArgument("addWord(MIN)", book, () -> book.addWord(MIN));
            check.is("addWord(1)", book.addWord(1), 0);
            check.is("lettersOf(0)", book.lettersOf(0), 1);
        });
        check.sentence("2: throws if letters is not 1 to 30: too large", () -> {
            TelegraphPrices book = new TelegraphPrices();
            check.badArgument("addWord(31)", book, () -> book.addWord(31));
            check.badArgument("addWord(MAX)", book, () -> book.addWord(MAX));
            check.is("addWord(30)", book.addWord(30), 0);
            check.is("lettersOf(0)", book.lettersOf(0), 30);
        });
        check.sentence("2: throws if there are 12", () -> {
            TelegraphPrices book = Check.bookOf(1, 2, 3, 4, 5, 6, 7, 8, 9, 10, 11);
            check.is("the twelfth", book.addWord(30), 11);
            check.badState("the thirteenth", book, () -> book.addWord(1));
            check.badState("the thirteenth", book, () -> book.addWord(30));
            check.is("words()", book.words(), 12);
        });
        check.sentence("2: letters not 1 to 30 is named ahead of 12 words", () -> {
            TelegraphPrices book = Check.fullBook();
            check.badArgument("addWord(0)", book, () -> book.addWord(0));
            check.badArgument("addWord(31)", book, () -> book.addWord(31));
        });
        check.sentence("2: returns its number; a refused word takes none", () -> {
            TelegraphPrices book = new TelegraphPrices();
            for (int word = 0; word < 12; word++) {
                check.badArgument("addWord(0)", book, () -> book.addWord(0));
                check.is("addWord", book.addWord(12 - word), word);
                check.is("lettersOf", book.lettersOf(word), 12 - word);
            }
        });
        check.sentence("Terms: not, at first, for each ordered pair", () -> {
            TelegraphPrices book = Check.fullBook();
            for (int word = 0; word < 12; word++) {
                for (int other = 0; other < 12; other++) {
                    check.is("mayStandFor", book.mayStandFor(word, other), word == other);
                    check.is("mayJoin", book.mayJoin(word, other), false);
                }
            }
        });
    }

    private static void turnStandIn(Check check) {
        check.sentence("3: throws if there is no such word: too small", () -> {
            TelegraphPrices book = Check.bookOf(4, 5, 6);
            check.outside("turnStandIn(-1, 1)", book, () -> book.turnStandIn(-1, 1));
            check.outside("turnStandIn(1, -1)", book, () -> book.turnStandIn(1, -1));
            check.outside("turnStandIn(MIN, 1)", book, () -> book.turnStandIn(MIN, 1));
            check.outside("turnStandIn(1, MIN)", book, () -> book.turnStandIn(1, MIN));
            check.is("turnStandIn(0, 1)", book.turnStandIn(0, 1), true);
            check.is("turnStandIn(1, 0)", book.turnStandIn(1, 0), true);
        });
        check.sentence("3: throws if there is no such word: too large", () -> {
            TelegraphPrices book = Check.bookOf(4, 5, 6);
            check.outside("turnStandIn(3, 1)", book, () -> book.turnStandIn(3, 1));
            check.outside("turnStandIn(1, 3)", book, () -> book.turnStandIn(1, 3));
            check.outside("turnStandIn(33, 1)", book, () -> book.turnStandIn(33, 1));
            check.outside("turnStandIn(1, 32)", book, () -> book.turnStandIn(1, 32));
            check.outside("turnStandIn(MAX, 1)", book, () -> book.turnStandIn(MAX, 1));
            check.outside("turnStandIn(1, MAX)", book, () -> book.turnStandIn(1, MAX));
            check.is("turnStandIn(2, 1)", book.turnStandIn(2, 1), true);
            check.is("turnStandIn(1, 2)", book.turnStandIn(1, 2), true);
        });
        check.sentence("3: throws if there is no such word: full and empty", () -> {
            TelegraphPrices full = Check.fullBook();
            check.outside("turnStandIn(12, 0)", full, () -> full.turnStandIn(12, 0));
            check.outside("turnStandIn(0, 12)", full, () -> full.turnStandIn(0, 12));
            check.is("turnStandIn(11, 0)", full.turnStandIn(11, 0), true);
            check.is("turnStandIn(0, 11)", full.turnStandIn(0, 11), true);
            TelegraphPrices empty = new TelegraphPrices();
            check.outside("turnStandIn(0, 1)", empty, () -> empty.turnStandIn(0, 1));
        });
        check.sentence("3: throws if both are the same", () -> {
            TelegraphPrices book = Check.fullBook();
            check.badArgument("turnStandIn(0, 0)", book, () -> book.turnStandIn(0, 0));
            check.badArgument("turnStandIn(11, 11)", book, () -> book.turnStandIn(11, 11));
            check.is("turnStandIn(11, 10)", book.turnStandIn(11, 10), true);
            check.is("turnStandIn(10, 11)", book.turnStandIn(10, 11), true);
            check.is("each for itself", book.mayStandFor(11, 11), true);
        });
        check.sentence("3: no such word is named ahead of both the same", () -> {
            TelegraphPrices book = Check.fullBook();
            check.outside("turnStandIn(12, 12)", book, () -> book.turnStandIn(12, 12));
            check.outside("turnStandIn(-1, -1)", book, () -> book.turnStandIn(-1, -1));
            TelegraphPrices empty = new TelegraphPrices();
            check.outside("turnStandIn(0, 0)", empty, () -> empty.turnStandIn(0, 0));
        });
    }

    private static void turnStandInTurns(Check check) {
        check.sentence("3: returns whether it may then", () -> {
            TelegraphPrices book = Check.fullBook();
            check.is("once", book.turnStandIn(11, 0), true);
            check.is("mayStandFor", book.mayStandFor(11, 0), true);
            check.is("twice", book.turnStandIn(11, 0), false);
            check.is("mayStandFor", book.mayStandFor(11, 0), false);
            check.is("thrice", book.turnStandIn(11, 0), true);
            check.is("mayStandFor", book.mayStandFor(11, 0), true);
        });
        check.sentence("Terms: each ordered pair by itself", () -> {
            for (int pair = 0; pair < 144; pair++) {
                TelegraphPrices book = Check.fullBook();
                if (pair / 12 != pair % 12) {
                    book.turnStandIn(pair / 12, pair % 12);
                    check.isText("turnStandIn", standInsOf(book), pairsBesideSame(pair));
                    check.is("no join", book.mayJoin(pair / 12, pair % 12), false);
                }
            }
        });
        check.sentence("3: wordings of now stay as they are", () -> {
            TelegraphPrices book = Check.bookOf(25, 3);
            book.turnStandIn(0, 1);
            book.turnJoin(1, 1);
            Check.write(book, 0, 0, 0);
            check.isText("though it may stand for it", Check.telegramOf(book), " 0 0 0");
            book.reword();
            check.isText("reworded", Check.telegramOf(book), " 1 1+ 1");
            book.turnStandIn(0, 1);
            check.isText("though it may no more", Check.telegramOf(book), " 1 1+ 1");
        });
    }

    private static String standInsOf(TelegraphPrices book) {
        StringBuilder text = new StringBuilder();
        for (int pair = 0; pair < 144; pair++) {
            text.append(book.mayStandFor(pair / 12, pair % 12) ? " " + pair : "");
        }
        return text.toString();
    }

    private static String pairsBesideSame(int one) {
        StringBuilder text = new StringBuilder();
        for (int pair = 0; pair < 144; pair++) {
            text.append(pair == one || pair / 12 == pair % 12 ? " " + pair : "");
        }
        return text.toString();
    }

    private static void turnJoin(Check check) {
        check.sentence("4: throws if there is no such word: too small", () -> {
            TelegraphPrices book = Check.bookOf(4, 5, 6);
            check.outside("turnJoin(-1, 1)", book, () -> book.turnJoin(-1, 1));
            check.outside("turnJoin(1, -1)", book, () -> book.turnJoin(1, -1));
            check.outside("turnJoin(-1, -1)", book, () -> book.turnJoin(-1, -1));
            check.outside("turnJoin(MIN, 1)", book, () -> book.turnJoin(MIN, 1));
            check.outside("turnJoin(1, MIN)", book, () -> book.turnJoin(1, MIN));
            check.is("turnJoin(0, 1)", book.turnJoin(0, 1), true);
            check.is("turnJoin(1, 0)", book.turnJoin(1, 0), true);
        });
        check.sentence("4: throws if there is no such word: too large", () -> {
            TelegraphPrices book = Check.bookOf(4, 5, 6);
            check.outside("turnJoin(3, 1)", book, () -> book.turnJoin(3, 1));
            check.outside("turnJoin(1, 3)", book, () -> book.turnJoin(1, 3));
            check.outside("turnJoin(3, 3)", book, () -> book.turnJoin(3, 3));
            check.outside("turnJoin(33, 1)", book, () -> book.turnJoin(33, 1));
            check.outside("turnJoin(1, 32)", book, () -> book.turnJoin(1, 32));
            check.outside("turnJoin(MAX, 1)", book, () -> book.turnJoin(MAX, 1));
            check.outside("turnJoin(1, MAX)", book, () -> book.turnJoin(1, MAX));
            check.is("turnJoin(2, 1)", book.turnJoin(2, 1), true);
            check.is("turnJoin(1, 2)", book.turnJoin(1, 2), true);
        });
        check.sentence("4: throws if there is no such word: full and empty", () -> {
            TelegraphPrices full = Check.fullBook();
            check.outside("turnJoin(12, 0)", full, () -> full.turnJoin(12, 0));
            check.outside("turnJoin(0, 12)", full, () -> full.turnJoin(0, 12));
            check.is("turnJoin(11, 0)", full.turnJoin(11, 0), true);
            check.is("turnJoin(0, 11)", full.turnJoin(0, 11), true);
            TelegraphPrices empty = new TelegraphPrices();
            check.outside("turnJoin(0, 0)", empty, () -> empty.turnJoin(0, 0));
        });
        check.sentence("Terms: also of the same word twice", () -> {
            TelegraphPrices book = Check.fullBook();
            check.is("turnJoin(0, 0)", book.turnJoin(0, 0), true);
            check.is("turnJoin(11, 11)", book.turnJoin(11, 11), true);
            check.is("mayJoin(11, 11)", book.mayJoin(11, 11), true);
        });
    }

    private static void turnJoinTurns(Check check) {
        check.sentence("4: returns whether it may then", () -> {
            TelegraphPrices book = Check.fullBook();
            check.is("once", book.turnJoin(11, 11), true);
            check.is("mayJoin", book.mayJoin(11, 11), true);
            check.is("twice", book.turnJoin(11, 11), false);
            check.is("mayJoin", book.mayJoin(11, 11), false);
            check.is("thrice", book.turnJoin(11, 11), true);
            check.is("mayJoin", book.mayJoin(11, 11), true);
        });
        check.sentence("Terms: each ordered pair by itself", () -> {
            for (int pair = 0; pair < 144; pair++) {
                TelegraphPrices book = Check.fullBook();
                book.turnJoin(pair / 12, pair % 12);
                check.isText("turnJoin", joinsOf(book), " " + pair);
                check.is("no stand-in", book.standInsOf(pair / 12), 1);
            }
        });
        check.sentence("4: places that are joined stay so", () -> {
            TelegraphPrices book = Check.bookOf(4, 5);
            book.turnJoin(0, 1);
            Check.write(book, 0, 1, 0, 1);
            check.isText("nothing is joined by it", Check.telegramOf(book), " 0 1 0 1");
            book.turnJoined(0);
            book.turnJoined(2);
            book.turnJoin(0, 1);
            check.isText("though they may no more", Check.telegramOf(book), " 0+ 1 0+ 1");
            book.setLeastCount(0);
            check.is("and count so", book.count(), 2);
        });
    }

    private static String joinsOf(TelegraphPrices book) {
        StringBuilder text = new StringBuilder();
        for (int pair = 0; pair < 144; pair++) {
            text.append(book.mayJoin(pair / 12, pair % 12) ? " " + pair : "");
        }
        return text.toString();
    }

    private static void setLimit(Check check) {
        check.sentence("5: throws if letters is not 3 to 15: too small", () -> {
            TelegraphPrices book = Check.bookOf(30);
            check.badArgument("setLimit(2)", book, () -> book.setLimit(2));
            check.badArgument("setLimit(0)", book, () -> book.setLimit(0));
            check.badArgument("setLimit(-3)", book, () -> book.setLimit(-3));
            check.badArgument("setLimit(MIN)", book, () -> book.setLimit(MIN));
            check.is("setLimit(3)", book.setLimit(3), 10);
            check.is("countOf(0)", book.countOf(0), 10);
        });
        check.sentence("5: throws if letters is not 3 to 15: too large", () -> {
            TelegraphPrices book = Check.bookOf(30);
            check.badArgument("setLimit(16)", book, () -> book.setLimit(16));
            check.badArgument("setLimit(MAX)", book, () -> book.setLimit(MAX));
            check.is("setLimit(15)", book.setLimit(15), 10);
            check.is("countOf(0)", book.countOf(0), 2);
        });
        check.sentence("5: returns the one before; a refused one is none", () -> {
            TelegraphPrices book = new TelegraphPrices();
            check.is("setLimit(15)", book.setLimit(15), 10);
            check.badArgument("setLimit(16)", book, () -> book.setLimit(16));
            check.is("setLimit(3)", book.setLimit(3), 15);
            check.badArgument("setLimit(2)", book, () -> book.setLimit(2));
            check.is("setLimit(3)", book.setLimit(3), 3);
        });
    }

    private static void setLeastCount(Check check) {
        check.sentence("6: throws if count is not 0 to 20: too small", () -> {
            TelegraphPrices book = Check.bookOf(3);
            book.write(0);
            check.badArgument("setLeastCount(-1)", book, () -> book.setLeastCount(-1));
            check.badArgument("setLeastCount(MIN)", book, () -> book.setLeastCount(MIN));
            check.is("setLeastCount(0)", book.setLeastCount(0), 5);
            check.is("count()", book.count(), 1);
        });
        check.sentence("6: throws if count is not 0 to 20: too large", () -> {
            TelegraphPrices book = Check.bookOf(3);
            book.write(0);
            check.badArgument("setLeastCount(21)", book, () -> book.setLeastCount(21));
            check.badArgument("setLeastCount(MAX)", book, () -> book.setLeastCount(MAX));
            check.is("setLeastCount(20)", book.setLeastCount(20), 5);
            check.is("count()", book.count(), 20);
        });
        check.sentence("6: returns the one before; a refused one is none", () -> {
            TelegraphPrices book = new TelegraphPrices();
            check.is("setLeastCount(20)", book.setLeastCount(20), 5);
            check.badArgument("setLeastCount(21)", book, () -> book.setLeastCount(21));
            check.is("setLeastCount(0)", book.setLeastCount(0), 20);
            check.badArgument("setLeastCount(-1)", book, () -> book.setLeastCount(-1));
            check.is("setLeastCount(0)", book.setLeastCount(0), 0);
        });
    }

    private static void setCoins(Check check) {
        check.sentence("7: throws if coins is not 1 to 50: too small", () -> {
            TelegraphPrices book = Check.bookOf(3);
            book.write(0);
            check.badArgument("setCoins(0)", book, () -> book.setCoins(0));
            check.badArgument("setCoins(-1)", book, () -> book.setCoins(-1));
            check.badArgument("setCoins(MIN)", book, () -> book.setCoins(MIN));
            check.is("setCoins(1)", book.setCoins(1), 2);
            check.is("price()", book.price(), 5);
        });
        check.sentence("7: throws if coins is not 1 to 50: too large", () -> {
            TelegraphPrices book = Check.bookOf(3);
            book.write(0);
            check.badArgument("setCoins(51)", book, () -> book.setCoins(51));
            check.badArgument("setCoins(MAX)", book, () -> book.setCoins(MAX));
            check.is("setCoins(50)", book.setCoins(50), 2);
            check.is("price()", book.price(), 250);
        });
        check.sentence("7: returns those before; refused ones are none", () -> {
            TelegraphPrices book = new TelegraphPrices();
            check.is("setCoins(50)", book.setCoins(50), 2);
            check.badArgument("setCoins(51)", book, () -> book.setCoins(51));
            check.is("setCoins(1)", book.setCoins(1), 50);
            check.badArgument("setCoins(0)", book, () -> book.setCoins(0));
            check.is("setCoins(1)", book.setCoins(1), 1);
        });
    }
}
