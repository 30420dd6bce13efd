/** Promises 1 to 7: a new object, and the book. */
public final class BookTest {
    private static final int[] FAR = {Integer.MIN_VALUE, -1000000, -32, -2, 32, 64, 1000000, Integer.MAX_VALUE};

    public static void main(String[] args) {
        Check check = new Check();
        newObject(check);
        addWord(check);
        turnStandIn(check);
        turnJoin(check);
        setLimit(check);
        setLeastCount(check);
        setCoins(check);
        check.end();
    }

    private static void newObject(Check check) {
        TelegraphPrices book = new TelegraphPrices();
        check.is("1: words()", book.words(), 0);
        check.is("1: length()", book.length(), 0);
        check.is("1: limit()", book.limit(), 10);
        check.is("1: leastCount()", book.leastCount(), 5);
        check.is("1: coins()", book.coins(), 2);
        check.is("1: count()", book.count(), 0);
        check.is("1: price()", book.price(), 0);
        check.is("1: sent()", book.sent(), 0);
        check.is("1: earned()", book.earned(), 0);
        check.is("1: wordings()", book.wordings(), 1);
        TelegraphPrices other = Check.bookOf(3);
        other.write(0);
        check.is("1: words() of another object", book.words(), 0);
        check.is("1: length() of another object", book.length(), 0);
    }

    private static void addWord(Check check) {
        TelegraphPrices book = new TelegraphPrices();
        for (int letters : FAR) {
            check.badArgument("2: addWord(" + letters + ")", book, () -> book.addWord(letters));
        }
        check.badArgument("2: addWord(0)", book, () -> book.addWord(0));
        check.badArgument("2: addWord(31)", book, () -> book.addWord(31));
        check.is("2: addWord(1)", book.addWord(1), 0);
        check.is("2: addWord(30)", book.addWord(30), 1);
        for (int word = 2; word < 12; word++) {
            check.is("2: addWord(7)", book.addWord(7), word);
        }
        check.is("2: words()", book.words(), 12);
        check.is("2: lettersOf(0)", book.lettersOf(0), 1);
        check.is("2: lettersOf(1)", book.lettersOf(1), 30);
        check.is("2: lettersOf(11)", book.lettersOf(11), 7);
        check.badState("2: a thirteenth word", book, () -> book.addWord(7));
        check.badArgument("2: a thirteenth word of 0 letters", book, () -> book.addWord(0));
        check.badArgument("2: a thirteenth word of 31 letters", book, () -> book.addWord(31));
        check.isText("2: nothing stands for or joins a new word", Check.stateOf(Check.bookOf(4, 5)),
            "limit 10 least 5 coins 2 sent 0 earned 0 words 4:s--- 5:--s- telegram");
    }

    private static void turnStandIn(Check check) {
        TelegraphPrices book = Check.bookOf(12, 7, 3);
        Check.write(book, 0, 0);
        check.is("3: turnStandIn(0, 1)", book.turnStandIn(0, 1), true);
        check.is("3: it may stand for it", book.mayStandFor(0, 1), true);
        check.is("3: not the other way", book.mayStandFor(1, 0), false);
        check.isText("3: the telegram stays", Check.telegramOf(book), " 0 0");
        book.reword();
        check.isText("3: reworded", Check.telegramOf(book), " 1 1");
        check.is("3: turnStandIn(0, 1) again", book.turnStandIn(0, 1), false);
        check.is("3: it may not any more", book.mayStandFor(0, 1), false);
        check.isText("3: the wording of now stays", Check.telegramOf(book), " 1 1");
        check.is("3: turnStandIn(2, 0)", book.turnStandIn(2, 0), true);
        check.badArgument("3: turnStandIn(1, 1)", book, () -> book.turnStandIn(1, 1));
        check.outside("3: turnStandIn(3, 3)", book, () -> book.turnStandIn(3, 3));
        check.outside("3: turnStandIn(-1, -1)", book, () -> book.turnStandIn(-1, -1));
        check.outside("3: turnStandIn(0, 3)", book, () -> book.turnStandIn(0, 3));
        check.outside("3: turnStandIn(3, 0)", book, () -> book.turnStandIn(3, 0));
        for (int far : FAR) {
            check.outside("3: turnStandIn(0, " + far + ")", book, () -> book.turnStandIn(0, far));
            check.outside("3: turnStandIn(" + far + ", 0)", book, () -> book.turnStandIn(far, 0));
        }
    }

    private static void turnJoin(Check check) {
        TelegraphPrices book = Check.bookOf(4, 5, 6);
        Check.write(book, 0, 1);
        check.is("4: turnJoin(0, 1)", book.turnJoin(0, 1), true);
        check.is("4: it may be joined", book.mayJoin(0, 1), true);
        check.is("4: not the other way", book.mayJoin(1, 0), false);
        check.isText("4: nothing is joined by it", Check.telegramOf(book), " 0 1");
        book.turnJoined(0);
        check.is("4: turnJoin(0, 1) again", book.turnJoin(0, 1), false);
        check.is("4: it may not any more", book.mayJoin(0, 1), false);
        check.isText("4: places that are joined stay so", Check.telegramOf(book), " 0+ 1");
        check.is("4: turnJoin(2, 2)", book.turnJoin(2, 2), true);
        check.is("4: a word with itself", book.mayJoin(2, 2), true);
        check.outside("4: turnJoin(0, 3)", book, () -> book.turnJoin(0, 3));
        check.outside("4: turnJoin(3, 0)", book, () -> book.turnJoin(3, 0));
        check.outside("4: turnJoin(-1, 0)", book, () -> book.turnJoin(-1, 0));
        check.outside("4: turnJoin(0, -1)", book, () -> book.turnJoin(0, -1));
        for (int far : FAR) {
            check.outside("4: turnJoin(0, " + far + ")", book, () -> book.turnJoin(0, far));
            check.outside("4: turnJoin(" + far + ", 0)", book, () -> book.turnJoin(far, 0));
        }
    }

    private static void setLimit(Check check) {
        TelegraphPrices book = Check.bookOf(30);
        check.is("5: setLimit(3)", book.setLimit(3), 10);
        check.is("5: limit()", book.limit(), 3);
        check.is("5: countOf(0)", book.countOf(0), 10);
        check.is("5: setLimit(15)", book.setLimit(15), 3);
        check.is("5: countOf(0)", book.countOf(0), 2);
        check.is("5: setLimit(15) again", book.setLimit(15), 15);
        check.badArgument("5: setLimit(2)", book, () -> book.setLimit(2));
        check.badArgument("5: setLimit(16)", book, () -> book.setLimit(16));
        check.badArgument("5: setLimit(0)", book, () -> book.setLimit(0));
        for (int far : FAR) {
            check.badArgument("5: setLimit(" + far + ")", book, () -> book.setLimit(far));
        }
    }

    private static void setLeastCount(Check check) {
        TelegraphPrices book = Check.bookOf(3);
        book.write(0);
        check.is("6: setLeastCount(20)", book.setLeastCount(20), 5);
        check.is("6: leastCount()", book.leastCount(), 20);
        check.is("6: count()", book.count(), 20);
        check.is("6: setLeastCount(0)", book.setLeastCount(0), 20);
        check.is("6: count()", book.count(), 1);
        check.badArgument("6: setLeastCount(-1)", book, () -> book.setLeastCount(-1));
        check.badArgument("6: setLeastCount(21)", book, () -> book.setLeastCount(21));
        for (int far : FAR) {
            check.badArgument("6: setLeastCount(" + far + ")", book, () -> book.setLeastCount(far));
        }
    }

    private static void setCoins(Check check) {
        TelegraphPrices book = Check.bookOf(3);
        book.write(0);
        check.is("7: setCoins(50)", book.setCoins(50), 2);
        check.is("7: coins()", book.coins(), 50);
        check.is("7: price()", book.price(), 250);
        check.is("7: setCoins(1)", book.setCoins(1), 50);
        check.is("7: price()", book.price(), 5);
        check.badArgument("7: setCoins(0)", book, () -> book.setCoins(0));
        check.badArgument("7: setCoins(51)", book, () -> book.setCoins(51));
        for (int far : new int[] {Integer.MIN_VALUE, -1, 100, Integer.MAX_VALUE}) {
            check.badArgument("7: setCoins(" + far + ")", book, () -> book.setCoins(far));
        }
    }
}
