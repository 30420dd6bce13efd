/** Promises 8 to 12: the telegram. */
public final class TelegramTest {
    private static final int[] FAR = {Integer.MIN_VALUE, -1000000, -32, -2, 32, 1000000, Integer.MAX_VALUE};

    public static void main(String[] args) {
        Check check = new Check();
        write(check);
        strike(check);
        turnJoined(check);
        reword(check);
        rewordOfAFullTelegram(check);
        rewordOfAWordingThatIsNotHonestAnyMore(check);
        send(check);
        check.end();
    }

    private static void write(Check check) {
        TelegraphPrices book = Check.bookOf(3, 14);
        check.outside("8: write(2)", book, () -> book.write(2));
        check.outside("8: write(-1)", book, () -> book.write(-1));
        for (int far : FAR) {
            check.outside("8: write(" + far + ")", book, () -> book.write(far));
        }
        for (int number = 1; number <= 16; number++) {
            check.is("8: write", book.write(number % 2), number);
        }
        check.isText("8: the telegram", Check.telegramOf(book), " 1 0 1 0 1 0 1 0 1 0 1 0 1 0 1 0");
        check.badState("8: a seventeenth word", book, () -> book.write(0));
        check.outside("8: no such word, and no room", book, () -> book.write(2));
        check.outside("8: no such word, and no room", book, () -> book.write(-1));
        TelegraphPrices empty = new TelegraphPrices();
        check.outside("8: write(0) without words", empty, () -> empty.write(0));
    }

    private static TelegraphPrices twoPairs() {
        TelegraphPrices book = Check.bookOf(3, 4, 5, 6);
        Check.write(book, 0, 1, 2, 3, 0);
        book.turnJoin(0, 1);
        book.turnJoin(2, 3);
        book.turnJoined(0);
        book.turnJoined(2);
        return book;
    }

    private static void strike(Check check) {
        check.isText("9: ahead of it", Check.telegramOf(twoPairs()), " 0+ 1 2+ 3 0");
        String[] due = {" 1 2+ 3 0", " 0 2+ 3 0", " 0+ 1 3 0", " 0+ 1 2 0", " 0+ 1 2+ 3"};
        for (int place = 0; place < 5; place++) {
            TelegraphPrices book = twoPairs();
            check.is("9: strike(" + place + ")", book.strike(place), 4);
            check.isText("9: behind strike(" + place + ")", Check.telegramOf(book), due[place]);
            book.write(1);
            check.isText("9: and a word more", Check.telegramOf(book), due[place] + " 1");
        }
        TelegraphPrices book = twoPairs();
        check.outside("9: strike(5)", book, () -> book.strike(5));
        check.outside("9: strike(-1)", book, () -> book.strike(-1));
        for (int far : FAR) {
            check.outside("9: strike(" + far + ")", book, () -> book.strike(far));
        }
        for (int left = 4; left >= 0; left--) {
            check.is("9: strike(0)", book.strike(0), left);
        }
        check.outside("9: strike(0) of none", book, () -> book.strike(0));
        TelegraphPrices full = Check.bookOf(3);
        Check.write(full, 0, 0, 0, 0, 0, 0, 0, 0, 0, 0, 0, 0, 0, 0, 0, 0);
        check.outside("9: strike(16)", full, () -> full.strike(16));
        full.turnJoin(0, 0);
        full.turnJoined(14);
        check.is("9: strike(15)", full.strike(15), 15);
        check.isText("9: behind strike(15)", Check.telegramOf(full), " 0 0 0 0 0 0 0 0 0 0 0 0 0 0 0");
    }

    private static void turnJoined(Check check) {
        TelegraphPrices book = Check.bookOf(3, 4);
        Check.write(book, 0, 1, 0, 1);
        check.badState("10: their words may not be", book, () -> book.turnJoined(0));
        book.turnJoin(0, 1);
        book.turnJoin(1, 0);
        check.is("10: turnJoined(1)", book.turnJoined(1), true);
        check.isText("10: joined", Check.telegramOf(book), " 0 1+ 0 1");
        check.badState("10: the second is joined already", book, () -> book.turnJoined(0));
        check.badState("10: the first is joined already", book, () -> book.turnJoined(2));
        check.outside("10: the last place", book, () -> book.turnJoined(3));
        check.outside("10: no such place", book, () -> book.turnJoined(4));
        check.outside("10: no such place", book, () -> book.turnJoined(-1));
        for (int far : FAR) {
            check.outside("10: turnJoined(" + far + ")", book, () -> book.turnJoined(far));
        }
        book.turnJoin(1, 0);
        check.is("10: parted, though they may not be joined any more", book.turnJoined(1), false);
        check.isText("10: parted", Check.telegramOf(book), " 0 1 0 1");
        check.badState("10: not joined again", book, () -> book.turnJoined(1));
        check.is("10: turnJoined(0)", book.turnJoined(0), true);
        check.is("10: turnJoined(2), beside a pair", book.turnJoined(2), true);
        check.isText("10: two pairs", Check.telegramOf(book), " 0+ 1 0+ 1");
        book.turnJoin(1, 0);
        check.badState("10: both are joined already", book, () -> book.turnJoined(1));
        check.is("10: turnJoined(2) again", book.turnJoined(2), false);
        check.badState("10: the word at place 1 is joined already", book, () -> book.turnJoined(1));
        book.turnJoined(2);
        check.is("10: turnJoined(0) again", book.turnJoined(0), false);
        check.isText("10: one pair", Check.telegramOf(book), " 0 1 0+ 1");
        TelegraphPrices full = Check.bookOf(3);
        full.turnJoin(0, 0);
        check.outside("10: without a telegram", full, () -> full.turnJoined(0));
        Check.write(full, 0, 0, 0, 0, 0, 0, 0, 0, 0, 0, 0, 0, 0, 0, 0, 0);
        check.outside("10: turnJoined(15)", full, () -> full.turnJoined(15));
        check.is("10: turnJoined(14)", full.turnJoined(14), true);
    }

    private static void reword(Check check) {
        TelegraphPrices empty = new TelegraphPrices();
        check.is("11: reword() without a telegram", empty.reword(), 0);
        TelegraphPrices book = Check.bookOf(4, 12, 7, 3);
        book.turnStandIn(1, 2);
        book.turnJoin(2, 3);
        Check.write(book, 0, 1, 2, 3, 1);
        book.setLeastCount(0);
        check.is("11: reword()", book.reword(), 3);
        check.isText("11: the telegram", Check.telegramOf(book), " 0 2 2+ 3 2");
        check.is("11: reword() again", book.reword(), 0);
        TelegraphPrices least = Check.bookOf(4, 12, 7, 3);
        least.turnStandIn(1, 2);
        Check.write(least, 0, 1, 2, 3, 1);
        least.setLeastCount(6);
        check.is("11: with the least count", least.reword(), 1);
        check.isText("11: with the least count", Check.telegramOf(least), " 0 2 2 3 2");
        TelegraphPrices far = Check.bookOf(25, 15, 5);
        far.turnStandIn(0, 1);
        far.turnStandIn(1, 2);
        far.setLeastCount(0);
        far.write(0);
        check.is("11: a stand-in", far.reword(), 1);
        check.isText("11: what stands for a stand-in does not stand for the word", Check.telegramOf(far), " 1");
        check.is("11: but for the stand-in, once it is there", far.reword(), 1);
        check.isText("11: the next stand-in", Check.telegramOf(far), " 2");
    }

    private static void rewordOfAFullTelegram(Check check) {
        TelegraphPrices book = Check.bookOf(12, 2);
        book.turnStandIn(0, 1);
        book.turnJoin(1, 1);
        Check.write(book, 0, 0, 0, 0, 0, 0, 0, 0, 0, 0, 0, 0, 0, 0, 0, 0);
        check.is("11: reword() of 16 words", book.reword(), 24);
        check.isText("11: 16 words", Check.telegramOf(book), " 1+ 1 1+ 1 1+ 1 1+ 1 1+ 1 1+ 1 1+ 1 1+ 1");
    }

    private static void rewordOfAWordingThatIsNotHonestAnyMore(Check check) {
        TelegraphPrices book = Check.bookOf(2, 3);
        book.setLeastCount(0);
        book.turnJoin(0, 1);
        Check.write(book, 0, 1, 0, 1);
        book.turnJoined(0);
        book.turnJoined(2);
        book.turnJoin(0, 1);
        check.is("11: it counts more, as joins are not allowed any more", book.reword(), -2);
        check.isText("11: parted", Check.telegramOf(book), " 0 1 0 1");
        TelegraphPrices least = Check.bookOf(2, 3);
        least.setLeastCount(3);
        least.turnJoin(0, 1);
        Check.write(least, 0, 1, 0, 1);
        least.turnJoined(0);
        least.turnJoined(2);
        least.turnJoin(0, 1);
        check.is("11: likewise, with the least count", least.reword(), -1);
    }

    private static void send(Check check) {
        TelegraphPrices book = Check.bookOf(3);
        book.turnJoin(0, 0);
        check.badState("12: send(0) of none", book, () -> book.send(0));
        check.outside("12: send(4) of none", book, () -> book.send(4));
        check.outside("12: send(-1) of none", book, () -> book.send(-1));
        book.setCoins(7);
        int[] due = {35, 52, 70, 87};
        for (int zone = 0; zone < 4; zone++) {
            Check.write(book, 0, 0);
            book.turnJoined(0);
            check.is("12: send(" + zone + ")", book.send(zone), due[zone]);
            check.is("12: length()", book.length(), 0);
            check.is("12: sent()", book.sent(), zone + 1);
        }
        check.is("12: earned()", book.earned(), 244);
        Check.write(book, 0, 0);
        book.turnJoined(0);
        book.send(0);
        Check.write(book, 0, 0);
        check.isText("12: nothing is joined in the next one", Check.telegramOf(book), " 0 0");
        check.outside("12: send(4)", book, () -> book.send(4));
        for (int far : FAR) {
            check.outside("12: send(" + far + ")", book, () -> book.send(far));
        }
    }
}
