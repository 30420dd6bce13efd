/** Promises 13 to 29: what there is. */
public final class WhatThereIsTest {
    private static final int[] FAR = {Integer.MIN_VALUE, -1000000, -32, -2, -1, 32, 1000000, Integer.MAX_VALUE};

    public static void main(String[] args) {
        Check check = new Check();
        words(check);
        counts(check);
        standInsAndJoins(check);
        settings(check);
        telegram(check);
        count(check);
        leastCountOfTheTelegram(check);
        price(check);
        sentAndEarned(check);
        check.end();
    }

    private static void words(Check check) {
        TelegraphPrices book = new TelegraphPrices();
        check.outside("14: lettersOf(0) without words", book, () -> book.lettersOf(0));
        for (int word = 0; word < 12; word++) {
            check.is("13: words()", book.words(), word);
            book.addWord(30 - word);
        }
        check.is("13: words()", book.words(), 12);
        for (int word = 0; word < 12; word++) {
            check.is("14: lettersOf(" + word + ")", book.lettersOf(word), 30 - word);
        }
        check.outside("14: lettersOf(12)", book, () -> book.lettersOf(12));
        check.outside("15: countOf(12)", book, () -> book.countOf(12));
        for (int far : FAR) {
            check.outside("14: lettersOf(" + far + ")", book, () -> book.lettersOf(far));
            check.outside("15: countOf(" + far + ")", book, () -> book.countOf(far));
        }
    }

    private static void counts(Check check) {
        TelegraphPrices book = Check.bookOf(1, 9, 10, 11, 20, 21, 30);
        int[] atTen = {1, 1, 1, 2, 2, 3, 3};
        int[] atThree = {1, 3, 4, 4, 7, 7, 10};
        int[] atFifteen = {1, 1, 1, 1, 2, 2, 2};
        for (int word = 0; word < 7; word++) {
            book.setLimit(10);
            check.is("15: countOf(" + word + ") at 10", book.countOf(word), atTen[word]);
            book.setLimit(3);
            check.is("15: countOf(" + word + ") at 3", book.countOf(word), atThree[word]);
            book.setLimit(15);
            check.is("15: countOf(" + word + ") at 15", book.countOf(word), atFifteen[word]);
        }
        check.outside("15: countOf(7)", book, () -> book.countOf(7));
    }

    private static void standInsAndJoins(Check check) {
        TelegraphPrices book = Check.bookOf(1, 2, 3, 4, 5, 6, 7, 8, 9, 10, 11, 12);
        check.is("16: each for itself", book.mayStandFor(11, 11), true);
        check.is("16: no other one, at first", book.mayStandFor(11, 10), false);
        check.is("17: not with itself, at first", book.mayJoin(11, 11), false);
        check.is("18: itself", book.standInsOf(11), 1);
        for (int other = 0; other < 11; other++) {
            book.turnStandIn(11, other);
            check.is("16: mayStandFor(11, " + other + ")", book.mayStandFor(11, other), true);
            check.is("16: mayStandFor(" + other + ", 11)", book.mayStandFor(other, 11), false);
            check.is("18: standInsOf(11)", book.standInsOf(11), other + 2);
            book.turnJoin(other, 11);
            check.is("17: mayJoin(" + other + ", 11)", book.mayJoin(other, 11), true);
            check.is("17: mayJoin(11, " + other + ")", book.mayJoin(11, other), false);
        }
        check.is("18: what it stands for does not count", book.standInsOf(0), 1);
        book.turnStandIn(11, 0);
        check.is("18: one less", book.standInsOf(11), 11);
        check.outside("16: mayStandFor(12, 12)", book, () -> book.mayStandFor(12, 12));
        check.outside("16: mayStandFor(0, 12)", book, () -> book.mayStandFor(0, 12));
        check.outside("16: mayStandFor(12, 0)", book, () -> book.mayStandFor(12, 0));
        check.outside("17: mayJoin(0, 12)", book, () -> book.mayJoin(0, 12));
        check.outside("17: mayJoin(12, 0)", book, () -> book.mayJoin(12, 0));
        check.outside("18: standInsOf(12)", book, () -> book.standInsOf(12));
        for (int far : FAR) {
            check.outside("16: mayStandFor(0, " + far + ")", book, () -> book.mayStandFor(0, far));
            check.outside("16: mayStandFor(" + far + ", 0)", book, () -> book.mayStandFor(far, 0));
            check.outside("16: mayStandFor twice " + far, book, () -> book.mayStandFor(far, far));
            check.outside("17: mayJoin(0, " + far + ")", book, () -> book.mayJoin(0, far));
            check.outside("17: mayJoin(" + far + ", 0)", book, () -> book.mayJoin(far, 0));
            check.outside("18: standInsOf(" + far + ")", book, () -> book.standInsOf(far));
        }
    }

    private static void settings(Check check) {
        TelegraphPrices book = new TelegraphPrices();
        for (int limit = 3; limit <= 15; limit++) {
            book.setLimit(limit);
            check.is("19: limit()", book.limit(), limit);
        }
        for (int least = 0; least <= 20; least++) {
            book.setLeastCount(least);
            check.is("20: leastCount()", book.leastCount(), least);
        }
        for (int coins = 1; coins <= 50; coins++) {
            book.setCoins(coins);
            check.is("21: coins()", book.coins(), coins);
        }
        check.is("19: limit() stays", book.limit(), 15);
        check.is("20: leastCount() stays", book.leastCount(), 20);
    }

    private static void telegram(Check check) {
        TelegraphPrices book = Check.bookOf(3, 4, 5);
        check.outside("23: wordAt(0) of none", book, () -> book.wordAt(0));
        check.outside("24: isJoined(0) of none", book, () -> book.isJoined(0));
        Check.write(book, 2, 0, 1);
        check.is("22: length()", book.length(), 3);
        check.is("23: wordAt(0)", book.wordAt(0), 2);
        check.is("23: wordAt(1)", book.wordAt(1), 0);
        check.is("23: wordAt(2)", book.wordAt(2), 1);
        book.turnJoin(0, 1);
        book.turnJoined(1);
        check.is("24: isJoined(0)", book.isJoined(0), false);
        check.is("24: isJoined(1)", book.isJoined(1), true);
        check.is("24: isJoined(2), the last", book.isJoined(2), false);
        check.outside("23: wordAt(3)", book, () -> book.wordAt(3));
        check.outside("24: isJoined(3)", book, () -> book.isJoined(3));
        for (int far : FAR) {
            check.outside("23: wordAt(" + far + ")", book, () -> book.wordAt(far));
            check.outside("24: isJoined(" + far + ")", book, () -> book.isJoined(far));
        }
        Check.write(book, 0, 0, 0, 0, 0, 0, 0, 0, 0, 0, 0, 0, 0);
        check.is("22: length() of a full one", book.length(), 16);
        check.is("23: wordAt(15)", book.wordAt(15), 0);
        check.is("24: isJoined(15)", book.isJoined(15), false);
        check.outside("23: wordAt(16)", book, () -> book.wordAt(16));
        check.outside("24: isJoined(16)", book, () -> book.isJoined(16));
    }

    private static void count(Check check) {
        TelegraphPrices book = Check.bookOf(6, 4, 5, 12);
        book.setLeastCount(0);
        check.is("25: count() of none", book.count(), 0);
        Check.write(book, 0, 1, 0, 2, 3);
        check.is("25: count()", book.count(), 6);
        book.turnJoin(0, 1);
        book.turnJoin(0, 2);
        book.turnJoined(0);
        check.is("25: 10 letters count one", book.count(), 5);
        book.turnJoined(2);
        check.is("25: 11 letters count two", book.count(), 5);
        book.setLimit(11);
        check.is("25: at another limit", book.count(), 4);
        book.setLimit(3);
        check.is("25: and at 3", book.count(), 12);
        TelegraphPrices dear = Check.bookOf(30);
        dear.setLimit(3);
        Check.write(dear, 0, 0, 0, 0, 0, 0, 0, 0, 0, 0, 0, 0, 0, 0, 0, 0);
        check.is("25: the dearest", dear.count(), 160);
        dear.setCoins(50);
        check.is("26: the dearest", dear.price(), 8000);
        check.is("27: the dearest", dear.priceTo(3), 20000);
        check.is("12: the dearest", dear.send(3), 20000);
    }

    private static void leastCountOfTheTelegram(Check check) {
        TelegraphPrices book = Check.bookOf(6);
        check.is("25: 0, if it has no word", book.count(), 0);
        for (int number = 1; number <= 7; number++) {
            book.write(0);
            check.is("25: with the least count 5", book.count(), Math.max(number, 5));
        }
        book.setLeastCount(20);
        check.is("25: with the least count 20", book.count(), 20);
    }

    private static void price(Check check) {
        TelegraphPrices book = Check.bookOf(6);
        check.is("26: price() of none", book.price(), 0);
        check.is("27: priceTo(3) of none", book.priceTo(3), 0);
        Check.write(book, 0, 0, 0, 0, 0, 0, 0);
        check.is("26: price()", book.price(), 14);
        book.setCoins(3);
        check.is("26: price() at 3", book.price(), 21);
        check.is("27: priceTo(0)", book.priceTo(0), 21);
        check.is("27: priceTo(1)", book.priceTo(1), 31);
        check.is("27: priceTo(2)", book.priceTo(2), 42);
        check.is("27: priceTo(3)", book.priceTo(3), 52);
        check.outside("27: priceTo(4)", book, () -> book.priceTo(4));
        for (int far : FAR) {
            check.outside("27: priceTo(" + far + ")", book, () -> book.priceTo(far));
        }
        check.is("28: none is sent by it", book.sent(), 0);
    }

    private static void sentAndEarned(Check check) {
        TelegraphPrices book = Check.bookOf(6);
        check.is("28: sent()", book.sent(), 0);
        check.is("29: earned()", book.earned(), 0);
        book.write(0);
        book.send(1);
        check.is("28: sent()", book.sent(), 1);
        check.is("29: earned()", book.earned(), 15);
        book.setCoins(50);
        check.is("29: earned() stays", book.earned(), 15);
        book.write(0);
        book.send(3);
        check.is("28: sent()", book.sent(), 2);
        check.is("29: earned()", book.earned(), 640);
    }
}
