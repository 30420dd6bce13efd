/** The terms of counting, price and zones, and promises 13 to 29: each sentence at its boundary and one beyond it. */
public final class WhatThereIsBoundaryTest {
    private static final int MIN = Integer.MIN_VALUE;
    private static final int MAX = Integer.MAX_VALUE;

    public static void main(String[] args) {
        Check check = new Check();
        words(check);
        ofOneWord(check);
        countOf(check);
        ofTwoWords(check);
        standInsOf(check);
        settings(check);
        ofPlaces(check);
        countOfPairs(check);
        leastCount(check);
        price(check);
        priceTo(check);
        sentAndEarned(check);
        check.end();
    }

    private static void words(Check check) {
        check.sentence("13: words(), of none to 12, and behind a refused one", () -> {
            TelegraphPrices book = new TelegraphPrices();
            for (int number = 0; number < 12; number++) {
                check.is("words()", book.words(), number);
                book.addWord(30);
            }
            check.is("words()", book.words(), 12);
            check.badState("the thirteenth", book, () -> book.addWord(30));
            check.is("words()", book.words(), 12);
        });
    }

    private static void ofOneWord(Check check) {
        check.sentence("14: lettersOf() throws if there is no such word", () -> {
            TelegraphPrices book = Check.bookOf(7, 8);
            check.outside("lettersOf(-1)", book, () -> book.lettersOf(-1));
            check.outside("lettersOf(MIN)", book, () -> book.lettersOf(MIN));
            check.is("lettersOf(0)", book.lettersOf(0), 7);
            check.is("lettersOf(1)", book.lettersOf(1), 8);
            check.outside("lettersOf(2)", book, () -> book.lettersOf(2));
            check.outside("lettersOf(MAX)", book, () -> book.lettersOf(MAX));
            TelegraphPrices full = Check.fullBook();
            check.is("lettersOf(11)", full.lettersOf(11), 12);
            check.outside("lettersOf(12)", full, () -> full.lettersOf(12));
            TelegraphPrices empty = new TelegraphPrices();
            check.outside("lettersOf(0) without words", empty, () -> empty.lettersOf(0));
        });
        check.sentence("15: countOf() throws if there is no such word", () -> {
            TelegraphPrices book = Check.bookOf(10, 11);
            check.outside("countOf(-1)", book, () -> book.countOf(-1));
            check.outside("countOf(MIN)", book, () -> book.countOf(MIN));
            check.is("countOf(0)", book.countOf(0), 1);
            check.is("countOf(1)", book.countOf(1), 2);
            check.outside("countOf(2)", book, () -> book.countOf(2));
            check.outside("countOf(MAX)", book, () -> book.countOf(MAX));
            TelegraphPrices full = Check.fullBook();
            check.is("countOf(11)", full.countOf(11), 2);
            check.outside("countOf(12)", full, () -> full.countOf(12));
            TelegraphPrices empty = new TelegraphPrices();
            check.outside("countOf(0) without words", empty, () -> empty.countOf(0));
        });
    }

    private static void countOf(Check check) {
        check.sentence("15: so many letters count (letters + limit - 1) / limit, cut towards 0", () -> {
            for (int letters = 1; letters <= 30; letters++) {
                TelegraphPrices book = Check.bookOf(letters);
                for (int limit = 3; limit <= 15; limit++) {
                    book.setLimit(limit);
                    int due = letters % limit == 0 ? letters / limit : letters / limit + 1;
                    check.is(letters + " letters at " + limit, book.countOf(0), due);
                }
            }
        });
        check.sentence("15: what it counts by itself, not in the telegram", () -> {
            TelegraphPrices book = Check.bookOf(8, 3);
            book.setLimit(5);
            book.setLeastCount(20);
            book.turnStandIn(0, 1);
            book.turnJoin(0, 0);
            Check.write(book, 0, 0);
            book.turnJoined(0);
            check.is("countOf(0)", book.countOf(0), 2);
        });
    }

    private static void ofTwoWords(Check check) {
        check.sentence("16: mayStandFor() throws if there is no such word", () -> {
            TelegraphPrices book = Check.fullBook();
            book.turnStandIn(11, 0);
            check.outside("mayStandFor(-1, 0)", book, () -> book.mayStandFor(-1, 0));
            check.outside("mayStandFor(0, -1)", book, () -> book.mayStandFor(0, -1));
            check.outside("mayStandFor(-1, -1)", book, () -> book.mayStandFor(-1, -1));
            check.outside("mayStandFor(MIN, MIN)", book, () -> book.mayStandFor(MIN, MIN));
            check.is("mayStandFor(11, 0)", book.mayStandFor(11, 0), true);
            check.is("mayStandFor(0, 11)", book.mayStandFor(0, 11), false);
            check.outside("mayStandFor(12, 0)", book, () -> book.mayStandFor(12, 0));
            check.outside("mayStandFor(0, 12)", book, () -> book.mayStandFor(0, 12));
            check.outside("mayStandFor(12, 12)", book, () -> book.mayStandFor(12, 12));
            check.outside("mayStandFor(MAX, MAX)", book, () -> book.mayStandFor(MAX, MAX));
            check.outside("mayStandFor(0, 32)", book, () -> book.mayStandFor(0, 32));
            TelegraphPrices empty = new TelegraphPrices();
            check.outside("mayStandFor(0, 0) without words", empty, () -> empty.mayStandFor(0, 0));
        });
        check.sentence("16: each for itself", () -> {
            TelegraphPrices book = Check.fullBook();
            for (int word = 0; word < 12; word++) {
                int same = word;
                check.badArgument("turnStandIn", book, () -> book.turnStandIn(same, same));
                check.is("mayStandFor", book.mayStandFor(word, word), true);
            }
        });
        check.sentence("17: mayJoin() throws if there is no such word", () -> {
            TelegraphPrices book = Check.fullBook();
            book.turnJoin(11, 0);
            check.outside("mayJoin(-1, 0)", book, () -> book.mayJoin(-1, 0));
            check.outside("mayJoin(0, -1)", book, () -> book.mayJoin(0, -1));
            check.outside("mayJoin(MIN, MIN)", book, () -> book.mayJoin(MIN, MIN));
            check.is("mayJoin(11, 0)", book.mayJoin(11, 0), true);
            check.is("mayJoin(0, 11)", book.mayJoin(0, 11), false);
            check.outside("mayJoin(12, 0)", book, () -> book.mayJoin(12, 0));
            check.outside("mayJoin(0, 12)", book, () -> book.mayJoin(0, 12));
            check.outside("mayJoin(MAX, MAX)", book, () -> book.mayJoin(MAX, MAX));
            check.outside("mayJoin(11, 32)", book, () -> book.mayJoin(11, 32));
            TelegraphPrices empty = new TelegraphPrices();
            check.outside("mayJoin(0, 0) without words", empty, () -> empty.mayJoin(0, 0));
        });
    }

    private static void standInsOf(Check check) {
        check.sentence("18: standInsOf() throws if there is no such word", () -> {
            TelegraphPrices book = Check.fullBook();
            check.outside("standInsOf(-1)", book, () -> book.standInsOf(-1));
            check.outside("standInsOf(MIN)", book, () -> book.standInsOf(MIN));
            check.is("standInsOf(0)", book.standInsOf(0), 1);
            check.is("standInsOf(11)", book.standInsOf(11), 1);
            check.outside("standInsOf(12)", book, () -> book.standInsOf(12));
            check.outside("standInsOf(MAX)", book, () -> book.standInsOf(MAX));
            TelegraphPrices empty = new TelegraphPrices();
            check.outside("standInsOf(0) without words", empty, () -> empty.standInsOf(0));
        });
        check.sentence("18: itself as well: 1 to 12", () -> {
            TelegraphPrices book = Check.fullBook();
            for (int other = 0; other < 11; other++) {
                check.is("standInsOf(11)", book.standInsOf(11), other + 1);
                book.turnStandIn(11, other);
            }
            check.is("standInsOf(11), all", book.standInsOf(11), 12);
            for (int other = 10; other >= 0; other--) {
                book.turnStandIn(11, other);
                check.is("standInsOf(11)", book.standInsOf(11), other + 1);
                check.is("standInsOf(other)", book.standInsOf(other), 1);
            }
        });
    }

    private static void settings(Check check) {
        check.sentence("19: limit(), at its ends and behind a refused one", () -> {
            TelegraphPrices book = new TelegraphPrices();
            book.setLimit(3);
            check.is("limit()", book.limit(), 3);
            check.badArgument("setLimit(2)", book, () -> book.setLimit(2));
            check.is("limit()", book.limit(), 3);
            book.setLimit(15);
            check.is("limit()", book.limit(), 15);
            check.badArgument("setLimit(16)", book, () -> book.setLimit(16));
            check.is("limit()", book.limit(), 15);
        });
        check.sentence("20: leastCount(), at its ends and behind a refused one", () -> {
            TelegraphPrices book = new TelegraphPrices();
            book.setLeastCount(0);
            check.is("leastCount()", book.leastCount(), 0);
            check.badArgument("setLeastCount(-1)", book, () -> book.setLeastCount(-1));
            check.is("leastCount()", book.leastCount(), 0);
            book.setLeastCount(20);
            check.is("leastCount()", book.leastCount(), 20);
            check.badArgument("setLeastCount(21)", book, () -> book.setLeastCount(21));
            check.is("leastCount()", book.leastCount(), 20);
        });
        check.sentence("21: coins(), at its ends and behind a refused one", () -> {
            TelegraphPrices book = new TelegraphPrices();
            book.setCoins(1);
            check.is("coins()", book.coins(), 1);
            check.badArgument("setCoins(0)", book, () -> book.setCoins(0));
            check.is("coins()", book.coins(), 1);
            book.setCoins(50);
            check.is("coins()", book.coins(), 50);
            check.badArgument("setCoins(51)", book, () -> book.setCoins(51));
            check.is("coins()", book.coins(), 50);
        });
    }

    private static void ofPlaces(Check check) {
        check.sentence("22: length(), empty and full, and behind refused calls", () -> {
            TelegraphPrices book = Check.bookOf(3);
            check.is("length()", book.length(), 0);
            check.outside("strike(0)", book, () -> book.strike(0));
            check.is("length()", book.length(), 0);
            Check.writeTimes(book, 0, 16);
            check.is("length()", book.length(), 16);
            check.badState("write(0)", book, () -> book.write(0));
            check.is("length()", book.length(), 16);
        });
        check.sentence("23: wordAt() throws if there is no such place", () -> {
            TelegraphPrices book = Check.bookOf(3, 4);
            check.outside("wordAt(0) of none", book, () -> book.wordAt(0));
            for (int place = 0; place < 16; place++) {
                int beyond = place + 1;
                book.write(place % 2);
                check.is("wordAt(" + place + ")", book.wordAt(place), place % 2);
                check.outside("wordAt(" + beyond + ")", book, () -> book.wordAt(beyond));
            }
            check.outside("wordAt(-1)", book, () -> book.wordAt(-1));
            check.outside("wordAt(MIN)", book, () -> book.wordAt(MIN));
            check.outside("wordAt(MAX)", book, () -> book.wordAt(MAX));
            book.strike(15);
            check.outside("wordAt(15), struck", book, () -> book.wordAt(15));
        });
        check.sentence("24: isJoined() throws if there is no such place", () -> {
            TelegraphPrices book = Check.bookOf(3);
            book.turnJoin(0, 0);
            check.outside("isJoined(0) of none", book, () -> book.isJoined(0));
            for (int place = 0; place < 16; place++) {
                int beyond = place + 1;
                book.write(0);
                check.is("isJoined(" + place + "), the last", book.isJoined(place), false);
                check.outside("isJoined(" + beyond + ")", book, () -> book.isJoined(beyond));
            }
            book.turnJoined(14);
            check.is("isJoined(14)", book.isJoined(14), true);
            check.is("isJoined(15), the second of a pair", book.isJoined(15), false);
            check.outside("isJoined(-1)", book, () -> book.isJoined(-1));
            check.outside("isJoined(MIN)", book, () -> book.isJoined(MIN));
            check.outside("isJoined(MAX)", book, () -> book.isJoined(MAX));
            book.strike(15);
            check.is("isJoined(14), the last", book.isJoined(14), false);
            check.outside("isJoined(15), struck", book, () -> book.isJoined(15));
        });
    }

    private static int countOfPair(int first, int second, int limit) {
        TelegraphPrices book = Check.bookOf(first, second);
        book.setLeastCount(0);
        book.setLimit(limit);
        book.turnJoin(0, 1);
        Check.write(book, 0, 1);
        book.turnJoined(0);
        return book.count();
    }

    private static void countOfPairs(Check check) {
        check.sentence("Terms: joined words count as one with the letters of both", () -> {
            check.is("1 and 1 at 3", countOfPair(1, 1, 3), 1);
            check.is("1 and 2 at 3", countOfPair(1, 2, 3), 1);
            check.is("2 and 2 at 3", countOfPair(2, 2, 3), 2);
            check.is("5 and 5 at 10", countOfPair(5, 5, 10), 1);
            check.is("5 and 6 at 10", countOfPair(5, 6, 10), 2);
            check.is("30 and 30 at 3", countOfPair(30, 30, 3), 20);
            check.is("30 and 30 at 15", countOfPair(30, 30, 15), 4);
            check.is("30 and 1 at 15", countOfPair(30, 1, 15), 3);
        });
        check.sentence("25: words and joined pairs, added: at the first places and at the last", () -> {
            TelegraphPrices book = Check.bookOf(11, 9);
            book.setLeastCount(0);
            book.turnJoin(1, 0);
            book.turnJoin(0, 1);
            for (int place = 0; place < 16; place++) {
                book.write(place % 2);
            }
            check.is("count()", book.count(), 24);
            book.turnJoined(0);
            check.is("the first pair", book.count(), 23);
            book.turnJoined(14);
            check.is("the last pair", book.count(), 22);
            book.turnJoined(0);
            book.turnJoined(1);
            check.is("a pair at an odd place", book.count(), 22);
        });
        check.sentence("25: a place at the end, that was joined, counts by itself", () -> {
            TelegraphPrices book = Check.bookOf(11, 9);
            book.setLeastCount(0);
            book.turnJoin(0, 1);
            Check.write(book, 0, 1);
            book.turnJoined(0);
            check.is("both", book.count(), 2);
            book.strike(1);
            check.is("the first", book.count(), 2);
            book.write(1);
            check.is("both, not joined", book.count(), 3);
        });
    }

    private static void leastCount(Check check) {
        check.sentence("Terms: at least the least count, if it has a word", () -> {
            TelegraphPrices book = Check.bookOf(6);
            Check.writeTimes(book, 0, 4);
            check.is("one below", book.count(), 5);
            book.write(0);
            check.is("just the least count", book.count(), 5);
            book.write(0);
            check.is("one above", book.count(), 6);
            book.setLeastCount(20);
            check.is("20", book.count(), 20);
            book.setLeastCount(0);
            check.is("0", book.count(), 6);
        });
        check.sentence("Terms: 0, if it has none", () -> {
            TelegraphPrices book = Check.bookOf(6);
            book.setLeastCount(20);
            check.is("count()", book.count(), 0);
            book.write(0);
            check.is("count() of one", book.count(), 20);
            book.strike(0);
            check.is("count(), struck", book.count(), 0);
            book.write(0);
            book.send(0);
            check.is("count(), sent", book.count(), 0);
            check.is("count() without words", new TelegraphPrices().count(), 0);
        });
    }

    private static void price(Check check) {
        check.sentence("26: the count times the coins for each", () -> {
            TelegraphPrices book = Check.bookOf(30);
            book.setLimit(3);
            check.is("of none", book.price(), 0);
            book.write(0);
            check.is("at 2, at first", book.price(), 20);
            book.setCoins(1);
            check.is("at 1", book.price(), 10);
            book.setCoins(50);
            check.is("at 50", book.price(), 500);
            Check.writeTimes(book, 0, 15);
            check.is("of the dearest", book.price(), 8000);
        });
    }

    private static void priceTo(Check check) {
        check.sentence("27: throws if zone is not 0 to 3: too small", () -> {
            TelegraphPrices book = Check.bookOf(3);
            book.write(0);
            check.outside("priceTo(-1)", book, () -> book.priceTo(-1));
            check.outside("priceTo(-2)", book, () -> book.priceTo(-2));
            check.outside("priceTo(MIN)", book, () -> book.priceTo(MIN));
            check.is("priceTo(0)", book.priceTo(0), 10);
        });
        check.sentence("27: throws if zone is not 0 to 3: too large", () -> {
            TelegraphPrices book = Check.bookOf(3);
            book.write(0);
            check.outside("priceTo(4)", book, () -> book.priceTo(4));
            check.outside("priceTo(MAX)", book, () -> book.priceTo(MAX));
            check.is("priceTo(3)", book.priceTo(3), 25);
        });
        check.sentence("27: of an empty telegram; the zone is looked at all the same", () -> {
            TelegraphPrices book = new TelegraphPrices();
            for (int zone = 0; zone < 4; zone++) {
                check.is("priceTo", book.priceTo(zone), 0);
            }
            check.outside("priceTo(4)", book, () -> book.priceTo(4));
            check.outside("priceTo(-1)", book, () -> book.priceTo(-1));
        });
        check.sentence("Terms: price * (z + 2) / 2, multiplied first, cut towards 0", () -> {
            TelegraphPrices book = Check.bookOf(3);
            book.setLeastCount(0);
            book.setCoins(1);
            int[][] due = {{1, 1, 2, 2}, {2, 3, 4, 5}, {3, 4, 6, 7}, {4, 6, 8, 10}};
            for (int[] row : due) {
                book.write(0);
                for (int zone = 0; zone < 4; zone++) {
                    check.is("price " + book.price() + " to " + zone, book.priceTo(zone), row[zone]);
                }
            }
        });
    }

    private static void sentAndEarned(Check check) {
        check.sentence("28: how many were sent: none at first, none by a refused call", () -> {
            TelegraphPrices book = Check.bookOf(3);
            check.is("sent()", book.sent(), 0);
            check.badState("send(0)", book, () -> book.send(0));
            check.is("sent()", book.sent(), 0);
            book.write(0);
            check.outside("send(4)", book, () -> book.send(4));
            check.is("sent()", book.sent(), 0);
            book.send(0);
            check.is("sent()", book.sent(), 1);
        });
        check.sentence("29: how many coins they cost in all: those that they cost then", () -> {
            TelegraphPrices book = Check.bookOf(3);
            check.is("earned()", book.earned(), 0);
            book.write(0);
            book.send(3);
            check.is("earned()", book.earned(), 25);
            book.setCoins(50);
            book.setLeastCount(20);
            check.is("earned()", book.earned(), 25);
            book.write(0);
            check.is("earned()", book.earned(), 25);
            book.send(0);
            check.is("earned()", book.earned(), 1025);
        });
        check.sentence("29: a telegram that costs little", () -> {
            TelegraphPrices book = Check.bookOf(1);
            book.setLeastCount(0);
            book.setCoins(1);
            book.write(0);
            check.is("send(1)", book.send(1), 1);
            check.is("earned()", book.earned(), 1);
        });
    }
}
