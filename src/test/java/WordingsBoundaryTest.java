import java.math.BigInteger;

/** The terms of honest wordings, and promises 30 to 37: each sentence at its boundary and one beyond it. */
public final class WordingsBoundaryTest {
    private static final int MIN = Integer.MIN_VALUE;
    private static final int MAX = Integer.MAX_VALUE;

    public static void main(String[] args) {
        Check check = new Check();
        cheapestCount(check);
        honestWording(check);
        cheapestOrder(check);
        cheapestOrderOfPairs(check);
        cheapestPlaces(check);
        saves(check);
        wordings(check);
        bestJoin(check);
        bestJoinThatIsNone(check);
        bestJoinOfSeveral(check);
        meanCost(check);
        digest(check);
        check.end();
    }

    private static TelegraphPrices bookWithoutLeastCount(int... letters) {
        TelegraphPrices book = Check.bookOf(letters);
        book.setLeastCount(0);
        return book;
    }

    private static void cheapestCount(Check check) {
        check.sentence("30: of an empty telegram, whatever the least count", () -> {
            TelegraphPrices book = Check.bookOf(3);
            book.setLeastCount(20);
            check.is("cheapestCount()", book.cheapestCount(), 0);
            check.is("cheapestCount() without words", new TelegraphPrices().cheapestCount(), 0);
        });
        check.sentence("30: with the least count, as count() has it", () -> {
            TelegraphPrices book = Check.bookOf(11, 3);
            book.turnStandIn(0, 1);
            Check.write(book, 0, 0, 0);
            book.setLeastCount(2);
            check.is("one above", book.cheapestCount(), 3);
            book.setLeastCount(3);
            check.is("just the least count", book.cheapestCount(), 3);
            book.setLeastCount(4);
            check.is("one below", book.cheapestCount(), 4);
            book.setLeastCount(20);
            check.is("20", book.cheapestCount(), 20);
        });
        check.sentence("30: the dearest, and the cheapest", () -> {
            TelegraphPrices book = bookWithoutLeastCount(30, 1);
            book.setLimit(3);
            Check.writeTimes(book, 0, 16);
            check.is("nothing may be otherwise", book.cheapestCount(), 160);
            book.turnStandIn(0, 1);
            check.is("stand-ins", book.cheapestCount(), 16);
            book.turnJoin(1, 1);
            check.is("stand-ins and joins", book.cheapestCount(), 8);
        });
        check.sentence("30: of a telegram that has become shorter, and longer again", () -> {
            TelegraphPrices book = bookWithoutLeastCount(30);
            for (int number = 1; number <= 16; number++) {
                book.write(0);
                check.is("cheapestCount(), longer", book.cheapestCount(), 3 * number);
            }
            for (int number = 15; number >= 0; number--) {
                book.strike(number / 2);
                check.is("cheapestCount(), shorter", book.cheapestCount(), 3 * number);
            }
            Check.writeTimes(book, 0, 16);
            check.is("cheapestCount(), full again", book.cheapestCount(), 48);
            book.send(0);
            book.write(0);
            check.is("cheapestCount(), of one behind a full one", book.cheapestCount(), 3);
        });
        check.sentence("Terms: the least count left aside", () -> {
            TelegraphPrices book = Check.bookOf(11, 3);
            book.turnStandIn(0, 1);
            book.turnJoin(1, 1);
            Check.write(book, 0, 0, 0);
            book.setLeastCount(20);
            check.isText("the cheapest one", Check.cheapestOf(book), " 1 1+ 1");
        });
    }

    private static void honestWording(Check check) {
        check.sentence("Terms: at each place a word that may stand for the one there", () -> {
            TelegraphPrices book = bookWithoutLeastCount(30, 15, 3);
            book.turnStandIn(0, 1);
            book.turnStandIn(1, 2);
            Check.write(book, 0, 1, 2);
            check.isText("not the stand-in's one, nor the other way round", Check.cheapestOf(book), " 1 2 2");
        });
        check.sentence("Terms: each word stands for itself anyway", () -> {
            TelegraphPrices book = bookWithoutLeastCount(3, 30);
            book.turnStandIn(0, 1);
            book.write(0);
            check.isText("the word itself", Check.cheapestOf(book), " 0");
        });
        check.sentence("Terms: any places joined whose words may be", () -> {
            TelegraphPrices book = bookWithoutLeastCount(2, 3);
            book.turnJoin(0, 1);
            Check.write(book, 0, 1, 0, 1, 1, 0);
            check.isText("the words of both, in this order", Check.cheapestOf(book), " 0+ 1 0+ 1 1 0");
            book.turnJoin(0, 1);
            check.isText("may be no more", Check.cheapestOf(book), " 0 1 0 1 1 0");
        });
        check.sentence("Terms: a word can be joined with one other word alone", () -> {
            TelegraphPrices book = bookWithoutLeastCount(1);
            book.turnJoin(0, 0);
            book.setLimit(15);
            String[] due = {" 0", " 0+ 0", " 0 0+ 0", " 0+ 0 0+ 0", " 0 0+ 0 0+ 0"};
            for (String wording : due) {
                book.write(0);
                check.isText("the cheapest one", Check.cheapestOf(book), wording);
            }
        });
        check.sentence("Terms: the last place is joined with none", () -> {
            TelegraphPrices book = bookWithoutLeastCount(1);
            book.turnJoin(0, 0);
            Check.write(book, 0, 0);
            book.strike(1);
            check.isText("one word", Check.cheapestOf(book), " 0");
            Check.writeTimes(book, 0, 15);
            check.is("isJoinedInCheapest(14)", book.isJoinedInCheapest(14), true);
            check.is("isJoinedInCheapest(15)", book.isJoinedInCheapest(15), false);
            book.strike(15);
            check.is("isJoinedInCheapest(13)", book.isJoinedInCheapest(13), true);
            check.is("isJoinedInCheapest(14)", book.isJoinedInCheapest(14), false);
        });
        check.sentence("Terms: a joined pair is counted likewise: just at the limit, and one beyond it", () -> {
            TelegraphPrices book = bookWithoutLeastCount(5, 6);
            book.turnJoin(0, 0);
            book.turnJoin(0, 1);
            Check.write(book, 0, 0);
            check.isText("10 letters", Check.cheapestOf(book), " 0+ 0");
            book.strike(1);
            book.write(1);
            check.isText("11 letters", Check.cheapestOf(book), " 0 1");
            book.setLimit(11);
            check.isText("11 letters at 11", Check.cheapestOf(book), " 0+ 1");
        });
    }

    private static void cheapestOrder(Check check) {
        check.sentence("Terms: one whose word is not joined with the next one goes ahead of others", () -> {
            TelegraphPrices same = bookWithoutLeastCount(10, 10);
            same.turnJoin(0, 1);
            Check.write(same, 0, 1);
            check.isText("the same words", Check.cheapestOf(same), " 0 1");
            TelegraphPrices larger = bookWithoutLeastCount(12, 3, 3);
            larger.turnStandIn(1, 0);
            larger.turnJoin(0, 2);
            Check.write(larger, 1, 2);
            check.isText("ahead of the smaller number", Check.cheapestOf(larger), " 1 2");
            larger.setLimit(15);
            check.isText("but not of what counts less", Check.cheapestOf(larger), " 0+ 2");
        });
        check.sentence("Terms: from the first one on", () -> {
            TelegraphPrices book = bookWithoutLeastCount(3);
            book.turnJoin(0, 0);
            Check.writeTimes(book, 0, 15);
            check.isText("15 places", Check.cheapestOf(book), " 0 0+ 0 0+ 0 0+ 0 0+ 0 0+ 0 0+ 0 0+ 0");
            book.write(0);
            check.isText("16 places", Check.cheapestOf(book), " 0+ 0 0+ 0 0+ 0 0+ 0 0+ 0 0+ 0 0+ 0 0+ 0");
        });
        check.sentence("Terms: not joined at the first place, though the number there is larger", () -> {
            TelegraphPrices book = bookWithoutLeastCount(1, 3, 3, 3);
            book.turnJoin(0, 2);
            book.turnStandIn(1, 0);
            book.turnJoin(2, 3);
            Check.write(book, 1, 2, 3);
            check.isText("the smaller number, not joined", Check.cheapestOf(book), " 0 2+ 3");
            book.turnStandIn(1, 0);
            book.turnJoin(1, 2);
            check.isText("not joined", Check.cheapestOf(book), " 1 2+ 3");
        });
        check.sentence("Terms: then the smaller number of the word there", () -> {
            TelegraphPrices book = bookWithoutLeastCount(11, 10, 1, 10);
            book.turnStandIn(3, 0);
            book.turnStandIn(3, 1);
            book.turnStandIn(3, 2);
            Check.write(book, 3, 2, 3);
            check.isText("not the fewer letters", Check.cheapestOf(book), " 1 2 1");
            book.setLimit(11);
            check.isText("0, once it counts the same", Check.cheapestOf(book), " 0 2 0");
            book.setLimit(9);
            check.isText("2, once it counts less", Check.cheapestOf(book), " 2 2 2");
        });
    }

    private static TelegraphPrices bookOfPairs(int... pairs) {
        TelegraphPrices book = bookWithoutLeastCount(2, 2, 2, 2);
        for (int word = 0; word < 3; word++) {
            book.turnStandIn(3, word);
        }
        for (int pair : pairs) {
            book.turnJoin(pair / 10, pair % 10);
        }
        Check.write(book, 3, 3);
        return book;
    }

    /** The words 4 and 5 are there; 0 and 1, with so many letters, may stand for them, or 2 and 3; these pairs may be joined. */
    private static TelegraphPrices bookOfTwoPairs(int... letters) {
        TelegraphPrices book = bookWithoutLeastCount(letters);
        book.addWord(30);
        book.addWord(30);
        for (int word = 0; word < 4; word++) {
            book.turnStandIn(4 + word % 2, word);
        }
        book.turnJoin(0, 1);
        book.turnJoin(2, 3);
        Check.write(book, 4, 5);
        return book;
    }

    private static void cheapestOrderOfPairs(Check check) {
        check.sentence("Terms: the smaller number of the word there, also if it is joined", () -> {
            check.isText("0+ 3 ahead of 1+ 0", Check.cheapestOf(bookOfPairs(10, 3)), " 0+ 3");
            check.isText("2+ 3 ahead of 3+ 0", Check.cheapestOf(bookOfPairs(30, 23)), " 2+ 3");
            check.isText("3+ 3 alone", Check.cheapestOf(bookOfPairs(33)), " 3+ 3");
        });
        check.sentence("Terms: then, if it is joined, of the next one", () -> {
            check.isText("1+ 0 ahead of 1+ 1", Check.cheapestOf(bookOfPairs(11, 10)), " 1+ 0");
            check.isText("1+ 2 ahead of 1+ 3", Check.cheapestOf(bookOfPairs(13, 12)), " 1+ 2");
        });
        check.sentence("Terms: what counts less goes ahead of all that", () -> {
            TelegraphPrices book = bookWithoutLeastCount(9, 9, 4, 4);
            book.turnStandIn(0, 2);
            book.turnStandIn(1, 3);
            book.turnJoin(0, 1);
            book.turnJoin(2, 1);
            Check.write(book, 0, 1);
            check.isText("18 letters are no cheaper", Check.cheapestOf(book), " 0 1");
            book.turnJoin(2, 3);
            check.isText("8 letters are", Check.cheapestOf(book), " 2+ 3");
            book.setLimit(9);
            check.isText("8 letters are, at 9", Check.cheapestOf(book), " 2+ 3");
            book.setLimit(7);
            check.isText("and are not, at 7", Check.cheapestOf(book), " 2 3");
        });
        check.sentence("Terms: of two pairs the one that counts less, with the letters of both words", () -> {
            check.isText("fewer letters of the second", Check.cheapestOf(bookOfTwoPairs(3, 20, 3, 1)), " 2+ 3");
            check.isText("fewer letters of the first", Check.cheapestOf(bookOfTwoPairs(20, 3, 1, 3)), " 2+ 3");
            check.isText("fewer letters of both, ahead", Check.cheapestOf(bookOfTwoPairs(2, 3, 5, 14)), " 0+ 1");
            check.isText("fewer letters of one, more of the other", Check.cheapestOf(bookOfTwoPairs(2, 14, 5, 3)), " 2+ 3");
            check.isText("the other way round", Check.cheapestOf(bookOfTwoPairs(14, 2, 3, 5)), " 2+ 3");
            check.isText("of both the same", Check.cheapestOf(bookOfTwoPairs(2, 7, 5, 3)), " 0+ 1");
            check.isText("of both the same, a long first word", Check.cheapestOf(bookOfTwoPairs(21, 9, 21, 9)), " 0+ 1");
            check.isText("of both the same, a long second word", Check.cheapestOf(bookOfTwoPairs(9, 21, 9, 21)), " 0+ 1");
        });
    }

    private static void cheapestPlaces(Check check) {
        check.sentence("31: cheapestWordAt() throws if there is no such place", () -> {
            TelegraphPrices book = Check.bookOf(3, 4);
            book.turnStandIn(1, 0);
            check.outside("cheapestWordAt(0) of none", book, () -> book.cheapestWordAt(0));
            for (int place = 0; place < 16; place++) {
                int beyond = place + 1;
                book.write(1);
                check.is("cheapestWordAt(" + place + ")", book.cheapestWordAt(place), 0);
                check.outside("cheapestWordAt(" + beyond + ")", book, () -> book.cheapestWordAt(beyond));
            }
            check.outside("cheapestWordAt(-1)", book, () -> book.cheapestWordAt(-1));
            check.outside("cheapestWordAt(MIN)", book, () -> book.cheapestWordAt(MIN));
            check.outside("cheapestWordAt(MAX)", book, () -> book.cheapestWordAt(MAX));
            book.send(0);
            check.outside("cheapestWordAt(0), sent", book, () -> book.cheapestWordAt(0));
        });
        check.sentence("32: isJoinedInCheapest() throws if there is no such place", () -> {
            TelegraphPrices book = Check.bookOf(3);
            book.turnJoin(0, 0);
            check.outside("isJoinedInCheapest(0) of none", book, () -> book.isJoinedInCheapest(0));
            for (int place = 0; place < 16; place++) {
                int beyond = place + 1;
                book.write(0);
                check.is("isJoinedInCheapest(" + place + "), the last", book.isJoinedInCheapest(place), false);
                check.is("isJoinedInCheapest(0)", book.isJoinedInCheapest(0), place % 2 == 1);
                check.outside("isJoinedInCheapest(" + beyond + ")", book, () -> book.isJoinedInCheapest(beyond));
            }
            check.outside("isJoinedInCheapest(-1)", book, () -> book.isJoinedInCheapest(-1));
            check.outside("isJoinedInCheapest(MIN)", book, () -> book.isJoinedInCheapest(MIN));
            check.outside("isJoinedInCheapest(MAX)", book, () -> book.isJoinedInCheapest(MAX));
            book.strike(0);
            check.outside("isJoinedInCheapest(15), struck", book, () -> book.isJoinedInCheapest(15));
        });
    }

    private static void saves(Check check) {
        check.sentence("33: of an empty telegram, and of the cheapest one", () -> {
            TelegraphPrices book = Check.bookOf(30, 3);
            book.setLeastCount(20);
            check.is("of none", book.saves(), 0);
            check.is("without words", new TelegraphPrices().saves(), 0);
            book.setLeastCount(0);
            book.turnStandIn(0, 1);
            book.write(0);
            check.is("saves()", book.saves(), 4);
            book.reword();
            check.is("reworded", book.saves(), 0);
        });
        check.sentence("33: the price, with the least count on both sides", () -> {
            TelegraphPrices book = Check.bookOf(30, 3);
            book.turnStandIn(0, 1);
            Check.write(book, 0, 0);
            book.setCoins(50);
            book.setLeastCount(2);
            check.is("the cheapest one at it", book.saves(), 200);
            book.setLeastCount(3);
            check.is("the cheapest one below it", book.saves(), 150);
            book.setLeastCount(5);
            check.is("one less", book.saves(), 50);
            book.setLeastCount(6);
            check.is("both at it", book.saves(), 0);
        });
        check.sentence("33: less than 0, as joins were not allowed any more", () -> {
            TelegraphPrices book = bookWithoutLeastCount(3);
            book.turnJoin(0, 0);
            Check.write(book, 0, 0);
            book.turnJoined(0);
            check.is("allowed", book.saves(), 0);
            book.turnJoin(0, 0);
            check.is("allowed no more", book.saves(), -2);
        });
    }

    /** A book whose words 0 to 11 have 1 to 12 stand-ins each. */
    private static TelegraphPrices bookOfStandIns() {
        TelegraphPrices book = Check.fullBook();
        for (int word = 0; word < 12; word++) {
            for (int other = 0; other < word; other++) {
                book.turnStandIn(word, other);
            }
        }
        return book;
    }

    private static int wordingsOf(int... standIns) {
        TelegraphPrices book = bookOfStandIns();
        for (int number : standIns) {
            book.write(number - 1);
        }
        return book.wordings();
    }

    private static void wordings(Check check) {
        check.sentence("34: 1 for an empty telegram", () -> {
            check.is("wordings()", wordingsOf(), 1);
            check.is("wordings() without words", new TelegraphPrices().wordings(), 1);
        });
        check.sentence("34: how many there are: one place, and full", () -> {
            check.is("1", wordingsOf(1), 1);
            check.is("2", wordingsOf(2), 2);
            check.is("12", wordingsOf(12), 12);
            check.is("1, 16 times", wordingsOf(1, 1, 1, 1, 1, 1, 1, 1, 1, 1, 1, 1, 1, 1, 1, 1), 1);
            check.is("2, 16 times", wordingsOf(2, 2, 2, 2, 2, 2, 2, 2, 2, 2, 2, 2, 2, 2, 2, 2), 65536);
        });
        check.sentence("34: what would be more than 1000000 is 1000000", () -> {
            check.is("998250, the next below it", wordingsOf(11, 11, 11, 6, 5, 5, 5), 998250);
            check.is("1000000", wordingsOf(10, 10, 10, 10, 10, 10), 1000000);
            check.is("1000188, the next above it", wordingsOf(7, 7, 7, 9, 9, 9, 4), 1000000);
            check.is("998250 times 2", wordingsOf(11, 11, 11, 6, 5, 5, 5, 2), 1000000);
            check.is("1000000 times 1", wordingsOf(10, 10, 10, 10, 10, 10, 1), 1000000);
        });
        check.sentence("34: far more than 1000000, where numbers would wrap around", () -> {
            TelegraphPrices book = bookOfStandIns();
            int[] due = {12, 144, 1728, 20736, 248832};
            for (int number = 0; number < 16; number++) {
                book.write(11);
                check.is("12, " + number + " + 1 times", book.wordings(), number < 5 ? due[number] : 1000000);
            }
            check.is("8, 16 times", wordingsOf(8, 8, 8, 8, 8, 8, 8, 8, 8, 8, 8, 8, 8, 8, 8, 8), 1000000);
            check.is("4, 16 times", wordingsOf(4, 4, 4, 4, 4, 4, 4, 4, 4, 4, 4, 4, 4, 4, 4, 4), 1000000);
        });
        check.sentence("34: without any joins", () -> {
            TelegraphPrices book = Check.bookOf(3, 4);
            book.turnStandIn(0, 1);
            Check.write(book, 0, 0);
            check.is("nothing may be joined", book.wordings(), 4);
            book.turnJoin(0, 0);
            book.turnJoin(1, 1);
            book.turnJoined(0);
            check.is("all may, and is", book.wordings(), 4);
        });
    }

    private static void best(Check check, String what, TelegraphPrices book, int due) {
        String before = Check.stateOf(book);
        check.is("bestJoin(), " + what, book.bestJoin(), due);
        check.isText("nothing is changed, " + what, Check.stateOf(book), before);
    }

    private static void bestJoin(Check check) {
        check.sentence("35: 100 times the first word, and the second one, added", () -> {
            int[] words = {0, 1, 10, 11};
            for (int first : words) {
                for (int second : words) {
                    TelegraphPrices book = bookWithoutLeastCount(1, 1, 1, 1, 1, 1, 1, 1, 1, 1, 1, 1);
                    Check.write(book, first, second);
                    best(check, first + " and " + second, book, 100 * first + second);
                }
            }
        });
        check.sentence("35: that may not be joined yet", () -> {
            TelegraphPrices book = bookWithoutLeastCount(1, 1);
            Check.write(book, 0, 0, 1);
            best(check, "none may be", book, 0);
            book.turnJoin(0, 0);
            best(check, "one may be, that takes the place", book, -1);
            book.turnJoin(0, 0);
            book.turnJoin(0, 1);
            best(check, "the other one may be", book, -1);
            book.write(1);
            best(check, "beside the other one", book, -1);
            book.write(1);
            best(check, "and one more, for a pair of its own", book, 101);
        });
        check.sentence("35: joined in the telegram already, though it may not be any more", () -> {
            TelegraphPrices book = bookWithoutLeastCount(1, 1);
            book.turnJoin(0, 1);
            Check.write(book, 0, 1);
            book.turnJoined(0);
            best(check, "it may be", book, -1);
            book.turnJoin(0, 1);
            best(check, "it may be no more", book, 1);
        });
        check.sentence("35: a pair is not passed over, as each of its words may be joined with itself, or the other way", () -> {
            TelegraphPrices book = bookWithoutLeastCount(1, 1);
            book.turnJoin(0, 0);
            book.turnJoin(1, 1);
            book.turnJoin(1, 0);
            Check.write(book, 0, 1);
            best(check, "0 and 1", book, 1);
            book.turnJoin(1, 0);
            book.turnJoin(0, 1);
            book.strike(0);
            book.write(0);
            best(check, "1 and 0", book, 100);
        });
        check.sentence("35: had best may: the least of all, though its number is larger", () -> {
            TelegraphPrices book = bookWithoutLeastCount(1, 1, 1);
            Check.write(book, 0, 0, 1, 2, 1, 2);
            best(check, "twice", book, 102);
            book.strike(5);
            best(check, "once", book, 0);
        });
    }

    private static void bestJoinThatIsNone(Check check) {
        check.sentence("35: -1 if by none it would be less: no word, no telegram, one word", () -> {
            best(check, "without words", new TelegraphPrices(), -1);
            TelegraphPrices book = bookWithoutLeastCount(1);
            best(check, "of none", book, -1);
            book.write(0);
            best(check, "of one", book, -1);
            book.write(0);
            best(check, "of two", book, 0);
        });
        check.sentence("35: -1 if by none it would be less: just at the limit, and one beyond it", () -> {
            TelegraphPrices book = bookWithoutLeastCount(5, 6);
            Check.write(book, 0, 1);
            best(check, "11 letters", book, -1);
            book.setLimit(11);
            best(check, "11 letters at 11", book, 1);
        });
        check.sentence("35: -1 if by none it would be less: with the least count", () -> {
            TelegraphPrices book = Check.bookOf(1);
            Check.writeTimes(book, 0, 5);
            best(check, "just at the least count", book, -1);
            book.write(0);
            best(check, "one above it", book, 0);
            book.setLeastCount(6);
            best(check, "at the least count of 6", book, -1);
            book.setLeastCount(0);
            best(check, "without any", book, 0);
        });
        check.sentence("35: -1 if by none it would be less: all may be joined", () -> {
            TelegraphPrices book = bookWithoutLeastCount(1, 1);
            Check.write(book, 0, 1, 0, 1);
            for (int pair = 0; pair < 4; pair++) {
                book.turnJoin(pair / 2, pair % 2);
            }
            best(check, "all", book, -1);
        });
    }

    private static void bestJoinOfSeveral(Check check) {
        check.sentence("35: of several the smallest such number", () -> {
            TelegraphPrices book = bookWithoutLeastCount(1, 1, 1, 1);
            Check.write(book, 3, 2, 2, 0);
            best(check, "200 of 200, 202, 302", book, 200);
            book.strike(3);
            best(check, "202 of 202, 302", book, 202);
            book.strike(2);
            best(check, "302", book, 302);
        });
        check.sentence("35: of several, that go below the least count alike", () -> {
            TelegraphPrices book = Check.bookOf(1, 1, 1);
            Check.write(book, 0, 0, 1, 2, 1, 2);
            best(check, "0 saves one, 102 two, both down to 5", book, 0);
            book.setLeastCount(4);
            best(check, "0 down to 5, 102 to 4", book, 102);
        });
        check.sentence("35: by stand-ins", () -> {
            TelegraphPrices book = bookWithoutLeastCount(30, 30, 1, 1);
            Check.write(book, 0, 1);
            book.turnStandIn(0, 3);
            best(check, "60 letters count no less than 30 and 30, 31 than 1 and 30", book, -1);
            book.turnStandIn(1, 2);
            best(check, "of 3 and 2", book, 302);
            book.turnStandIn(0, 2);
            best(check, "of 2 and 2", book, 202);
        });
    }

    private static void meanCost(Check check) {
        check.sentence("36: 0 without any", () -> {
            TelegraphPrices book = Check.bookOf(1);
            check.isDouble("meanCost()", book.meanCost(), 0.0);
            check.badState("send(0)", book, () -> book.send(0));
            check.isDouble("behind a refused one", book.meanCost(), 0.0);
            book.write(0);
            check.isDouble("written, not sent", book.meanCost(), 0.0);
        });
        check.sentence("36: the mean of what they cost, not cut", () -> {
            TelegraphPrices book = bookWithoutLeastCount(1);
            book.setCoins(1);
            book.write(0);
            book.send(0);
            check.isDouble("1", book.meanCost(), 1.0);
            book.write(0);
            book.send(2);
            check.isDouble("1 and 2", book.meanCost(), 1.5);
            book.write(0);
            book.send(1);
            check.isDouble("1, 2 and 1", book.meanCost(), 4.0 / 3.0);
            book.setCoins(50);
            check.isDouble("what they cost then", book.meanCost(), 4.0 / 3.0);
        });
        check.sentence("36: of the dearest", () -> {
            TelegraphPrices book = Check.bookOf(30);
            book.setLimit(3);
            book.setCoins(50);
            for (int number = 0; number < 29; number++) {
                Check.writeTimes(book, 0, 16);
                check.is("send(3)", book.send(3), 20000);
            }
            check.is("earned()", book.earned(), 580000);
            check.isDouble("meanCost()", book.meanCost(), 20000.0);
        });
    }

    /** By numbers that never wrap around, cut to 64 bits at the end alone. */
    private static long dueDigest(TelegraphPrices book) {
        BigInteger d = BigInteger.valueOf(1913);
        int[] first = {book.words(), book.limit(), book.leastCount(), book.coins(), book.length(), book.count(),
            book.price(), book.cheapestCount(), book.sent(), book.earned()};
        for (int number : first) {
            d = d.multiply(BigInteger.valueOf(31)).add(BigInteger.valueOf(number));
        }
        for (int word = 0; word < book.words(); word++) {
            for (int number : new int[] {book.lettersOf(word), book.countOf(word), book.standInsOf(word)}) {
                d = d.multiply(BigInteger.valueOf(31)).add(BigInteger.valueOf(number));
            }
        }
        for (int place = 0; place < book.length(); place++) {
            int joined = book.isJoined(place) ? 1 : 0;
            int joinedThen = book.isJoinedInCheapest(place) ? 1 : 0;
            for (int number : new int[] {book.wordAt(place), joined, book.cheapestWordAt(place), joinedThen}) {
                d = d.multiply(BigInteger.valueOf(31)).add(BigInteger.valueOf(number));
            }
        }
        return d.longValue();
    }

    private static void digest(Check check) {
        check.sentence("37: of a new object", () -> {
            TelegraphPrices book = new TelegraphPrices();
            check.is("digest()", book.digest(), dueDigest(book));
            check.is("not 0", book.digest() != 0, true);
        });
        check.sentence("37: which wraps around as a 64-bit integer", () -> {
            TelegraphPrices book = new TelegraphPrices();
            for (int word = 0; word < 12; word++) {
                book.addWord(30 - word);
                check.is("of words", book.digest(), dueDigest(book));
            }
        });
        check.sentence("37: of a full book and a full telegram", () -> {
            TelegraphPrices book = bookOfStandIns();
            book.turnJoin(11, 11);
            book.turnJoin(0, 0);
            book.setLimit(4);
            for (int place = 0; place < 16; place++) {
                book.write(11);
                check.is("of places", book.digest(), dueDigest(book));
            }
            book.turnJoined(14);
            check.is("joined at the end", book.digest(), dueDigest(book));
            book.turnStandIn(11, 0);
            check.is("a larger word in the cheapest one", book.digest(), dueDigest(book));
            check.is("cheapestWordAt(15)", book.cheapestWordAt(15), 1);
            book.reword();
            check.is("reworded", book.digest(), dueDigest(book));
            book.send(3);
            check.is("sent", book.digest(), dueDigest(book));
        });
    }
}
