/** Promises 30 to 37: wordings. */
public final class WordingsTest {
    private static final int[] FAR = {Integer.MIN_VALUE, -1000000, -32, -2, -1, 32, 1000000, Integer.MAX_VALUE};

    public static void main(String[] args) {
        Check check = new Check();
        cheapestCount(check);
        eachCallByItself(check);
        noSuchPlace(check);
        notJoinedGoesAhead(check);
        smallerWordGoesAhead(check);
        smallerPairGoesAhead(check);
        joinsOfStandIns(check);
        fullTelegram(check);
        saves(check);
        wordings(check);
        bestJoin(check);
        bestJoinThatIsNone(check);
        meanCost(check);
        digest(check);
        check.end();
    }

    private static TelegraphPrices bookWithoutLeastCount(int... letters) {
        TelegraphPrices book = Check.bookOf(letters);
        book.setLeastCount(0);
        return book;
    }

    private static void cheapest(Check check, String what, TelegraphPrices book, int count, String wording) {
        String before = Check.stateOf(book);
        check.is("30: " + what, book.cheapestCount(), count);
        check.isText("31, 32: " + what, Check.cheapestOf(book), wording);
        check.isText("30 to 32: nothing is changed, " + what, Check.stateOf(book), before);
    }

    private static void cheapestCount(Check check) {
        TelegraphPrices book = Check.bookOf(4, 12, 7, 3);
        cheapest(check, "without a telegram", book, 0, "");
        Check.write(book, 0, 1, 2, 3, 1);
        cheapest(check, "nothing may be otherwise", book, 7, " 0 1 2 3 1");
        book.turnStandIn(1, 2);
        cheapest(check, "a stand-in", book, 5, " 0 2 2 3 2");
        book.turnJoin(2, 3);
        cheapest(check, "with the least count", book, 5, " 0 2 2+ 3 2");
        book.setLeastCount(0);
        cheapest(check, "the least count left aside", book, 4, " 0 2 2+ 3 2");
        book.setLeastCount(20);
        cheapest(check, "with a large least count", book, 20, " 0 2 2+ 3 2");
        book.setLeastCount(0);
        book.setLimit(7);
        cheapest(check, "at another limit", book, 5, " 0 2 2 3 2");
        TelegraphPrices joined = bookWithoutLeastCount(2, 3);
        Check.write(joined, 0, 1);
        joined.turnJoin(0, 1);
        joined.turnJoined(0);
        cheapest(check, "joined already", joined, 1, " 0+ 1");
        joined.turnJoin(0, 1);
        cheapest(check, "joined, though it may not be any more", joined, 2, " 0 1");
    }

    /** Each of these is the first call behind a change, so that it can't lean on what another one has looked up. */
    private static void eachCallByItself(Check check) {
        TelegraphPrices book = bookWithoutLeastCount(12, 3);
        Check.write(book, 0, 0);
        check.is("31: cheapestWordAt(0)", book.cheapestWordAt(0), 0);
        book.turnStandIn(0, 1);
        check.is("31: cheapestWordAt(0) behind turnStandIn", book.cheapestWordAt(0), 1);
        book.turnJoin(1, 1);
        check.is("32: isJoinedInCheapest(0) behind turnJoin", book.isJoinedInCheapest(0), true);
        book.setLimit(5);
        check.is("32: isJoinedInCheapest(0) behind setLimit", book.isJoinedInCheapest(0), false);
        check.is("30: cheapestCount()", book.cheapestCount(), 2);
        Check.write(book, 0, 0);
        check.is("31: cheapestWordAt(3) behind write", book.cheapestWordAt(3), 1);
        book.setLimit(6);
        check.is("30: cheapestCount() behind setLimit", book.cheapestCount(), 2);
        book.strike(0);
        check.is("32: isJoinedInCheapest(0) behind strike", book.isJoinedInCheapest(0), false);
        check.is("32: isJoinedInCheapest(1) behind strike", book.isJoinedInCheapest(1), true);
        book.turnJoin(1, 1);
        check.is("35: bestJoin() behind turnJoin", book.bestJoin(), 101);
        book.turnJoin(1, 1);
        check.is("37: digest() behind turnJoin", book.digest(), digestOf(2, 6, 0, 2, 3, 6, 12, 2, 0, 0,
            12, 2, 2, 3, 1, 1, 0, 0, 1, 0, 0, 0, 1, 1, 0, 0, 1, 0));
    }

    private static void noSuchPlace(Check check) {
        TelegraphPrices book = Check.bookOf(4);
        check.outside("31: cheapestWordAt(0) of none", book, () -> book.cheapestWordAt(0));
        check.outside("32: isJoinedInCheapest(0) of none", book, () -> book.isJoinedInCheapest(0));
        Check.write(book, 0, 0);
        check.outside("31: cheapestWordAt(2)", book, () -> book.cheapestWordAt(2));
        check.outside("32: isJoinedInCheapest(2)", book, () -> book.isJoinedInCheapest(2));
        for (int far : FAR) {
            check.outside("31: cheapestWordAt(" + far + ")", book, () -> book.cheapestWordAt(far));
            check.outside("32: isJoinedInCheapest(" + far + ")", book, () -> book.isJoinedInCheapest(far));
        }
    }

    private static void notJoinedGoesAhead(Check check) {
        TelegraphPrices tie = bookWithoutLeastCount(9, 9);
        Check.write(tie, 0, 1);
        tie.turnJoin(0, 1);
        cheapest(check, "a join that saves nothing", tie, 2, " 0 1");
        TelegraphPrices three = bookWithoutLeastCount(3);
        three.turnJoin(0, 0);
        Check.write(three, 0, 0, 0);
        cheapest(check, "the join at the later place", three, 2, " 0 0+ 0");
        Check.write(three, 0, 0);
        cheapest(check, "five places", three, 3, " 0 0+ 0 0+ 0");
        TelegraphPrices larger = bookWithoutLeastCount(12, 3, 3);
        larger.turnStandIn(1, 0);
        larger.turnJoin(0, 2);
        Check.write(larger, 1, 2);
        cheapest(check, "a larger word that is not joined", larger, 2, " 1 2");
    }

    private static void smallerWordGoesAhead(Check check) {
        TelegraphPrices book = bookWithoutLeastCount(10, 3, 11, 1, 12);
        book.turnStandIn(1, 0);
        book.turnStandIn(4, 3);
        book.turnStandIn(4, 1);
        book.turnStandIn(0, 1);
        book.turnStandIn(2, 4);
        Check.write(book, 0, 1, 4, 2);
        cheapest(check, "the smaller number", book, 5, " 0 0 1 2");
    }

    private static void smallerPairGoesAhead(Check check) {
        TelegraphPrices book = bookWithoutLeastCount(4, 5, 6, 3);
        book.turnStandIn(2, 0);
        book.turnStandIn(2, 1);
        book.turnStandIn(2, 3);
        book.turnJoin(3, 0);
        book.turnJoin(1, 3);
        book.turnJoin(1, 1);
        Check.write(book, 2, 2);
        cheapest(check, "the smaller first word, then the smaller next one", book, 1, " 1+ 1");
        book.turnJoin(1, 1);
        cheapest(check, "the next one thereafter", book, 1, " 1+ 3");
        book.turnJoin(0, 2);
        cheapest(check, "the smaller first word, though its next one is larger", book, 1, " 0+ 2");
        book.setLimit(7);
        cheapest(check, "a cheaper pair ahead of a smaller one", book, 1, " 3+ 0");
        TelegraphPrices next = bookWithoutLeastCount(3, 9, 2);
        next.turnStandIn(1, 2);
        next.turnJoin(0, 1);
        next.turnJoin(0, 2);
        Check.write(next, 0, 1);
        cheapest(check, "a cheaper next one ahead of a smaller one", next, 1, " 0+ 2");
        TelegraphPrices alike = bookWithoutLeastCount(3, 8, 8);
        alike.setLimit(7);
        alike.turnStandIn(2, 1);
        alike.turnJoin(0, 1);
        alike.turnJoin(0, 2);
        Check.write(alike, 0, 2);
        cheapest(check, "the smaller of two next ones that count alike", alike, 2, " 0+ 1");
    }

    private static void joinsOfStandIns(Check check) {
        TelegraphPrices book = bookWithoutLeastCount(25, 2, 8, 7);
        book.turnStandIn(0, 1);
        book.turnStandIn(1, 2);
        book.turnStandIn(1, 3);
        Check.write(book, 0, 0);
        cheapest(check, "what stands for a stand-in does not stand for the word", book, 2, " 1 1");
        book.turnJoin(1, 2);
        cheapest(check, "a join of words that are no stand-ins", book, 2, " 1 1");
        book.turnJoin(0, 1);
        cheapest(check, "a join that is dearer", book, 2, " 1 1");
        book.turnJoin(1, 1);
        cheapest(check, "a join of the stand-ins", book, 1, " 1+ 1");
        book.turnJoin(1, 1);
        book.setLimit(14);
        cheapest(check, "a join of the word and a stand-in", book, 2, " 1 1");
        TelegraphPrices order = bookWithoutLeastCount(2, 3);
        order.turnJoin(1, 0);
        Check.write(order, 0, 1);
        cheapest(check, "the words the other way round", order, 2, " 0 1");
        TelegraphPrices dear = bookWithoutLeastCount(8, 11, 9);
        dear.turnStandIn(0, 1);
        dear.turnJoin(1, 2);
        Check.write(dear, 0, 2, 0, 2);
        cheapest(check, "a dearer word in a join that saves nothing", dear, 4, " 0 2 0 2");
        dear.turnStandIn(2, 0);
        dear.turnJoin(0, 0);
        dear.setLimit(8);
        cheapest(check, "cheaper words ahead of joins", dear, 4, " 0 0 0 0");
    }

    private static void fullTelegram(Check check) {
        TelegraphPrices book = bookWithoutLeastCount(30, 29, 28, 27, 26, 25, 24, 23, 22, 21, 11, 5);
        for (int place = 0; place < 16; place++) {
            book.write(place % 12);
        }
        cheapest(check, "a full telegram", book, 45, " 0 1 2 3 4 5 6 7 8 9 10 11 0 1 2 3");
        for (int word = 0; word < 12; word++) {
            for (int other = 0; other < 12; other++) {
                if (word != other) {
                    book.turnStandIn(word, other);
                }
                book.turnJoin(word, other);
            }
        }
        cheapest(check, "with everything allowed", book, 8,
            " 11+ 11 11+ 11 11+ 11 11+ 11 11+ 11 11+ 11 11+ 11 11+ 11");
        book.strike(3);
        cheapest(check, "of 15 words", book, 8,
            " 11 11+ 11 11+ 11 11+ 11 11+ 11 11+ 11 11+ 11 11+ 11");
    }

    private static void saves(Check check) {
        TelegraphPrices book = Check.bookOf(4, 12, 7, 3);
        check.is("33: saves() without a telegram", book.saves(), 0);
        book.turnStandIn(1, 2);
        Check.write(book, 0, 1, 2, 3, 1);
        check.is("33: saves()", book.saves(), 4);
        book.setCoins(7);
        check.is("33: saves() at 7", book.saves(), 14);
        book.setLeastCount(6);
        check.is("33: saves() with the least count", book.saves(), 7);
        book.setLeastCount(20);
        check.is("33: saves() below the least count", book.saves(), 0);
        TelegraphPrices less = bookWithoutLeastCount(2, 3);
        less.turnJoin(0, 1);
        Check.write(less, 0, 1);
        less.turnJoined(0);
        less.turnJoin(0, 1);
        check.is("33: less than 0", less.saves(), -2);
    }

    private static TelegraphPrices bookOfStandIns(int number) {
        TelegraphPrices book = new TelegraphPrices();
        for (int word = 0; word < 12; word++) {
            book.addWord(7);
            if (word > 0 && word < number) {
                book.turnStandIn(0, word);
            }
        }
        return book;
    }

    private static void wordings(Check check) {
        TelegraphPrices book = bookOfStandIns(10);
        check.is("34: wordings() without a telegram", book.wordings(), 1);
        int[] due = {10, 100, 1000, 10000, 100000, 1000000, 1000000, 1000000};
        for (int number : due) {
            book.write(0);
            check.is("34: wordings()", book.wordings(), number);
        }
        TelegraphPrices many = bookOfStandIns(12);
        many.turnStandIn(1, 0);
        many.turnStandIn(1, 2);
        many.turnStandIn(1, 3);
        Check.write(many, 0, 1, 0, 2, 0, 0, 0);
        check.is("34: just below 1000000", many.wordings(), 995328);
        many.write(0);
        check.is("34: more than 1000000", many.wordings(), 1000000);
        Check.write(many, 0, 0, 0, 0, 0, 0, 0, 0);
        check.is("34: of a full telegram", many.wordings(), 1000000);
        TelegraphPrices joins = Check.bookOf(1, 1);
        joins.turnStandIn(0, 1);
        joins.turnJoin(0, 0);
        joins.turnJoin(0, 1);
        Check.write(joins, 0, 0, 1);
        joins.turnJoined(0);
        check.is("34: without any joins", joins.wordings(), 4);
        joins.setLeastCount(20);
        check.is("34: nor the least count", joins.wordings(), 4);
    }

    private static void best(Check check, String what, TelegraphPrices book, int due) {
        String before = Check.stateOf(book);
        check.is("35: bestJoin(), " + what, book.bestJoin(), due);
        check.isText("35: nothing is changed, " + what, Check.stateOf(book), before);
    }

    private static void bestJoin(Check check) {
        TelegraphPrices book = bookWithoutLeastCount(4, 5, 6, 3);
        Check.write(book, 3, 2, 3, 1, 3, 1);
        best(check, "used twice", book, 301);
        book.turnJoin(3, 1);
        best(check, "of those that may not be joined yet", book, 302);
        book.turnJoin(3, 2);
        best(check, "each word is in a pair already", book, -1);
        TelegraphPrices ties = bookWithoutLeastCount(4, 5, 6, 3);
        Check.write(ties, 3, 2, 1, 0);
        best(check, "of several the smallest number", ties, 100);
        ties.turnJoin(2, 1);
        best(check, "beside a join that would be dearer", ties, 100);
        TelegraphPrices standIns = bookWithoutLeastCount(9, 8, 2, 1);
        standIns.turnStandIn(0, 2);
        standIns.turnStandIn(1, 3);
        Check.write(standIns, 0, 1);
        best(check, "with stand-ins", standIns, 3);
        standIns.turnStandIn(1, 3);
        best(check, "with the stand-in of the first", standIns, 201);
        TelegraphPrices last = Check.bookOf(30, 30, 30, 30, 30, 30, 30, 30, 30, 30, 30, 2);
        Check.write(last, 11, 11, 0, 0);
        best(check, "a word with itself", last, 1111);
        TelegraphPrices itself = bookWithoutLeastCount(2, 3);
        itself.turnJoin(0, 0);
        itself.turnJoin(1, 1);
        Check.write(itself, 0, 1, 0, 1, 0, 1, 0, 1, 0, 1, 0, 1, 0, 1, 0, 1);
        best(check, "of a full telegram, beside joins of each word with itself", itself, 1);
        itself.turnJoin(0, 1);
        best(check, "that would save nothing more", itself, -1);
        TelegraphPrices first = bookWithoutLeastCount(2);
        Check.write(first, 0, 0, 0);
        best(check, "the word 0 with itself", first, 0);
        first.turnJoin(0, 0);
        best(check, "that may be joined already", first, -1);
    }

    private static void bestJoinThatIsNone(Check check) {
        best(check, "without words", new TelegraphPrices(), -1);
        best(check, "without a telegram", Check.bookOf(3, 4), -1);
        TelegraphPrices one = bookWithoutLeastCount(3, 4);
        one.write(0);
        best(check, "of one word", one, -1);
        TelegraphPrices tie = bookWithoutLeastCount(9, 9);
        Check.write(tie, 0, 1);
        best(check, "that would save nothing", tie, -1);
        TelegraphPrices least = Check.bookOf(3, 4);
        Check.write(least, 0, 1, 0, 1, 0);
        best(check, "below the least count", least, -1);
        least.setLeastCount(4);
        best(check, "down to the least count, of several the smallest number", least, 1);
        least.setLeastCount(3);
        best(check, "a little below it", least, 1);
    }

    private static void meanCost(Check check) {
        TelegraphPrices book = Check.bookOf(3);
        check.isDouble("36: meanCost() without any", book.meanCost(), 0.0);
        book.write(0);
        check.isDouble("36: meanCost() of none that was sent", book.meanCost(), 0.0);
        book.send(0);
        check.isDouble("36: meanCost() of one", book.meanCost(), 10.0);
        book.write(0);
        book.send(1);
        check.isDouble("36: meanCost() of two", book.meanCost(), 12.5);
        book.write(0);
        book.send(0);
        check.isDouble("36: meanCost() of three", book.meanCost(), 35.0 / 3.0);
    }

    private static long digestOf(long... numbers) {
        long d = 1913;
        for (long number : numbers) {
            d = d * 31 + number;
        }
        return d;
    }

    private static void digest(Check check) {
        TelegraphPrices book = new TelegraphPrices();
        check.is("37: digest() of a new object", book.digest(), digestOf(0, 10, 5, 2, 0, 0, 0, 0, 0, 0));
        book.addWord(14);
        book.addWord(5);
        book.addWord(3);
        book.turnStandIn(0, 1);
        book.turnJoin(1, 2);
        book.setLimit(9);
        book.setLeastCount(1);
        book.setCoins(3);
        book.write(2);
        book.send(1);
        Check.write(book, 0, 1, 2, 0, 2);
        book.turnJoined(1);
        String before = Check.stateOf(book);
        check.is("37: digest()", book.digest(), digestOf(3, 9, 1, 3, 5, 6, 18, 3, 1, 4,
            14, 2, 2, 5, 1, 1, 3, 1, 1,
            0, 0, 1, 0, 1, 1, 1, 1, 2, 0, 2, 0, 0, 0, 1, 1, 2, 0, 2, 0));
        check.isText("37: nothing is changed", Check.stateOf(book), before);
    }
}
