/** Promises 8 to 12: each sentence at its boundary and one beyond it. */
public final class TelegramBoundaryTest {
    private static final int MIN = Integer.MIN_VALUE;
    private static final int MAX = Integer.MAX_VALUE;

    public static void main(String[] args) {
        Check check = new Check();
        write(check);
        writeAtTheEnd(check);
        strike(check);
        strikeMovesAndParts(check);
        turnJoinedOutside(check);
        turnJoinedRefused(check);
        turnJoinedOfPlacesThatAreJoined(check);
        reword(check);
        rewordOfWhatMayBeNoMore(check);
        send(check);
        sendEmpties(check);
        check.end();
    }

    /** 16 words, each the word 0, joined two by two. */
    private static TelegraphPrices fullOfPairs() {
        TelegraphPrices book = Check.bookOf(3, 4);
        book.turnJoin(0, 0);
        Check.writeTimes(book, 0, 16);
        for (int place = 0; place < 16; place += 2) {
            book.turnJoined(place);
        }
        return book;
    }

    private static void write(Check check) {
        check.sentence("8: throws if there is no such word: too small", () -> {
            TelegraphPrices book = Check.bookOf(3, 4);
            check.outside("write(-1)", book, () -> book.write(-1));
            check.outside("write(MIN)", book, () -> book.write(MIN));
            check.is("write(0)", book.write(0), 1);
        });
        check.sentence("8: throws if there is no such word: too large", () -> {
            TelegraphPrices book = Check.bookOf(3, 4);
            check.outside("write(2)", book, () -> book.write(2));
            check.outside("write(MAX)", book, () -> book.write(MAX));
            check.is("write(1)", book.write(1), 1);
            TelegraphPrices full = Check.fullBook();
            check.outside("write(12)", full, () -> full.write(12));
            check.is("write(11)", full.write(11), 1);
        });
        check.sentence("8: throws if there is no such word: a book without words", () -> {
            TelegraphPrices book = new TelegraphPrices();
            check.outside("write(0)", book, () -> book.write(0));
        });
        check.sentence("8: throws if it has 16", () -> {
            TelegraphPrices book = Check.bookOf(3, 4);
            Check.writeTimes(book, 0, 15);
            check.is("the sixteenth", book.write(1), 16);
            check.badState("the seventeenth", book, () -> book.write(0));
            check.badState("the seventeenth", book, () -> book.write(1));
            check.is("wordAt(15)", book.wordAt(15), 1);
            TelegraphPrices pairs = fullOfPairs();
            check.badState("behind pairs", pairs, () -> pairs.write(0));
        });
        check.sentence("8: no such word is named ahead of 16 words", () -> {
            TelegraphPrices book = fullOfPairs();
            check.outside("write(2)", book, () -> book.write(2));
            check.outside("write(-1)", book, () -> book.write(-1));
        });
    }

    private static void writeAtTheEnd(Check check) {
        check.sentence("8: returns how many words it has then", () -> {
            TelegraphPrices book = Check.bookOf(3, 4);
            for (int number = 1; number <= 16; number++) {
                check.is("write", book.write(number % 2), number);
                check.is("wordAt the end", book.wordAt(number - 1), number % 2);
            }
            book.strike(0);
            check.is("the sixteenth once more", book.write(0), 16);
            check.badState("the seventeenth", book, () -> book.write(0));
        });
        check.sentence("8: a new place is not joined, whatever stood there", () -> {
            TelegraphPrices book = fullOfPairs();
            book.strike(15);
            book.write(0);
            check.is("behind strike: place 14", book.isJoined(14), false);
            check.is("behind strike: place 15", book.isJoined(15), false);
            book.send(0);
            Check.writeTimes(book, 0, 16);
            for (int place = 0; place < 16; place++) {
                check.is("behind send", book.isJoined(place), false);
            }
        });
    }

    private static void strike(Check check) {
        check.sentence("9: throws if there is no such place: too small", () -> {
            TelegraphPrices book = Check.bookOf(3, 4);
            Check.write(book, 0, 1);
            check.outside("strike(-1)", book, () -> book.strike(-1));
            check.outside("strike(MIN)", book, () -> book.strike(MIN));
            check.is("strike(0)", book.strike(0), 1);
        });
        check.sentence("9: throws if there is no such place: too large", () -> {
            TelegraphPrices book = Check.bookOf(3, 4);
            Check.write(book, 0, 1);
            check.outside("strike(2)", book, () -> book.strike(2));
            check.outside("strike(MAX)", book, () -> book.strike(MAX));
            check.is("strike(1)", book.strike(1), 1);
        });
        check.sentence("9: throws if there is no such place: full and empty", () -> {
            TelegraphPrices full = fullOfPairs();
            check.outside("strike(16)", full, () -> full.strike(16));
            check.is("strike(15)", full.strike(15), 15);
            check.outside("strike(15)", full, () -> full.strike(15));
            TelegraphPrices empty = Check.bookOf(3);
            check.outside("strike(0) of none", empty, () -> empty.strike(0));
            empty.write(0);
            check.is("strike(0) of one", empty.strike(0), 0);
            check.outside("strike(0) of none", empty, () -> empty.strike(0));
        });
        check.sentence("9: returns how many words the telegram has then", () -> {
            TelegraphPrices book = fullOfPairs();
            for (int left = 15; left >= 0; left--) {
                check.is("strike", book.strike(left / 2), left);
                check.is("length()", book.length(), left);
            }
        });
    }

    private static void strikeMovesAndParts(Check check) {
        check.sentence("9: those behind it move up", () -> {
            for (int place = 0; place < 12; place++) {
                TelegraphPrices book = Check.fullBook();
                StringBuilder due = new StringBuilder();
                for (int word = 0; word < 12; word++) {
                    book.write(word);
                    due.append(word == place ? "" : " " + word);
                }
                book.strike(place);
                check.isText("strike(" + place + ")", Check.telegramOf(book), due.toString());
            }
        });
        check.sentence("9: a place that was joined with it is not joined any more: the one ahead of it", () -> {
            TelegraphPrices book = fullOfPairs();
            book.strike(15);
            check.isText("at the end", Check.telegramOf(book), " 0+ 0 0+ 0 0+ 0 0+ 0 0+ 0 0+ 0 0+ 0 0");
            book.strike(1);
            check.isText("at the start", Check.telegramOf(book), " 0 0+ 0 0+ 0 0+ 0 0+ 0 0+ 0 0+ 0 0");
        });
        check.sentence("9: a place that was joined with it is not joined any more: the one behind it", () -> {
            TelegraphPrices book = fullOfPairs();
            book.strike(14);
            check.isText("at the end", Check.telegramOf(book), " 0+ 0 0+ 0 0+ 0 0+ 0 0+ 0 0+ 0 0+ 0 0");
            book.strike(0);
            check.isText("at the start", Check.telegramOf(book), " 0 0+ 0 0+ 0 0+ 0 0+ 0 0+ 0 0+ 0 0");
        });
        check.sentence("9: other places that are joined stay so", () -> {
            TelegraphPrices book = Check.bookOf(3, 4, 5);
            book.turnJoin(0, 1);
            Check.write(book, 0, 1, 2, 0, 1);
            book.turnJoined(0);
            book.turnJoined(3);
            book.turnJoin(0, 1);
            book.strike(2);
            check.isText("between two pairs", Check.telegramOf(book), " 0+ 1 0+ 1");
        });
    }

    private static void turnJoinedOutside(Check check) {
        check.sentence("10: throws if there is no such place: too small", () -> {
            TelegraphPrices book = fullOfPairs();
            check.outside("turnJoined(-1)", book, () -> book.turnJoined(-1));
            check.outside("turnJoined(MIN)", book, () -> book.turnJoined(MIN));
            check.is("turnJoined(0)", book.turnJoined(0), false);
        });
        check.sentence("10: throws if there is no such place: too large", () -> {
            TelegraphPrices book = fullOfPairs();
            check.outside("turnJoined(16)", book, () -> book.turnJoined(16));
            check.outside("turnJoined(17)", book, () -> book.turnJoined(17));
            check.outside("turnJoined(MAX - 1)", book, () -> book.turnJoined(MAX - 1));
            check.outside("turnJoined(MAX)", book, () -> book.turnJoined(MAX));
        });
        check.sentence("10: throws if it is the last one", () -> {
            TelegraphPrices book = Check.bookOf(3);
            book.turnJoin(0, 0);
            check.outside("turnJoined(0) of none", book, () -> book.turnJoined(0));
            for (int last = 0; last < 16; last++) {
                int place = last;
                book.write(0);
                check.outside("turnJoined(" + last + ")", book, () -> book.turnJoined(place));
                check.outside("turnJoined(" + last + " + 1)", book, () -> book.turnJoined(place + 1));
                if (last > 0) {
                    check.is("turnJoined(" + last + " - 1)", book.turnJoined(last - 1), true);
                    check.is("turnJoined(" + last + " - 1)", book.turnJoined(last - 1), false);
                }
            }
        });
        check.sentence("10: the last one is named ahead of what may not be", () -> {
            TelegraphPrices apart = Check.bookOf(3);
            Check.write(apart, 0, 0);
            check.outside("words that may not be joined", apart, () -> apart.turnJoined(1));
            TelegraphPrices pairs = fullOfPairs();
            check.outside("joined with another one", pairs, () -> pairs.turnJoined(15));
        });
        check.sentence("10: what stood behind the last one does not count", () -> {
            TelegraphPrices book = Check.bookOf(3);
            book.turnJoin(0, 0);
            Check.write(book, 0, 0, 0);
            book.turnJoined(1);
            book.strike(2);
            check.outside("turnJoined(1)", book, () -> book.turnJoined(1));
            check.is("turnJoined(0)", book.turnJoined(0), true);
        });
    }

    private static void turnJoinedRefused(Check check) {
        check.sentence("10: throws if they are not joined, and their words may not be", () -> {
            TelegraphPrices book = Check.bookOf(3, 4, 5);
            Check.write(book, 0, 1, 2);
            book.turnJoin(1, 0);
            book.turnJoin(0, 0);
            book.turnJoin(1, 1);
            book.turnJoin(0, 2);
            check.badState("the other ones may be", book, () -> book.turnJoined(0));
            book.turnJoin(0, 1);
            check.is("they may be", book.turnJoined(0), true);
            book.turnJoined(0);
            book.turnJoin(0, 1);
            check.badState("they may be no more", book, () -> book.turnJoined(0));
        });
        check.sentence("10: the words there are meant, not their stand-ins", () -> {
            TelegraphPrices book = Check.bookOf(3, 4);
            Check.write(book, 0, 0);
            book.turnStandIn(0, 1);
            book.turnJoin(1, 1);
            check.badState("turnJoined(0)", book, () -> book.turnJoined(0));
            book.reword();
            check.isText("reworded", Check.telegramOf(book), " 1+ 1");
            check.is("turnJoined(0)", book.turnJoined(0), false);
            check.is("turnJoined(0)", book.turnJoined(0), true);
        });
        check.sentence("10: throws if the first is joined with one ahead of it", () -> {
            TelegraphPrices book = Check.bookOf(3);
            book.turnJoin(0, 0);
            Check.writeTimes(book, 0, 16);
            book.turnJoined(0);
            check.badState("turnJoined(1)", book, () -> book.turnJoined(1));
            check.is("one further", book.turnJoined(2), true);
            book.turnJoined(2);
            book.turnJoined(13);
            check.badState("turnJoined(14)", book, () -> book.turnJoined(14));
        });
        check.sentence("10: throws if the second is joined with one behind it", () -> {
            TelegraphPrices book = Check.bookOf(3);
            book.turnJoin(0, 0);
            Check.writeTimes(book, 0, 16);
            book.turnJoined(14);
            check.badState("turnJoined(13)", book, () -> book.turnJoined(13));
            check.is("one further", book.turnJoined(12), true);
            book.turnJoined(12);
            book.turnJoined(1);
            check.badState("turnJoined(0)", book, () -> book.turnJoined(0));
        });
    }

    private static void turnJoinedOfPlacesThatAreJoined(Check check) {
        check.sentence("10: or parts them, if they are joined", () -> {
            TelegraphPrices book = fullOfPairs();
            for (int place = 0; place < 16; place += 2) {
                check.is("turnJoined(" + place + ")", book.turnJoined(place), false);
                check.is("isJoined(" + place + ")", book.isJoined(place), false);
            }
            check.is("turnJoined(7)", book.turnJoined(7), true);
            check.is("isJoined(7)", book.isJoined(7), true);
        });
        check.sentence("10: parts them, though their words may not be joined any more", () -> {
            TelegraphPrices book = fullOfPairs();
            book.turnJoin(0, 0);
            check.is("turnJoined(14)", book.turnJoined(14), false);
            check.badState("and not back", book, () -> book.turnJoined(14));
            check.is("turnJoined(0)", book.turnJoined(0), false);
            check.badState("and not back", book, () -> book.turnJoined(0));
        });
    }

    private static void reword(Check check) {
        check.sentence("11: of an empty telegram", () -> {
            TelegraphPrices book = Check.bookOf(3);
            check.is("reword()", book.reword(), 0);
            check.is("length()", book.length(), 0);
            TelegraphPrices empty = new TelegraphPrices();
            check.is("reword() without words", empty.reword(), 0);
        });
        check.sentence("11: of one word, the first and the last place", () -> {
            TelegraphPrices book = Check.bookOf(30, 1);
            book.setLeastCount(0);
            book.turnStandIn(0, 1);
            book.turnJoin(1, 1);
            book.write(0);
            check.is("reword()", book.reword(), 2);
            check.isText("the telegram", Check.telegramOf(book), " 1");
        });
        check.sentence("11: of 16 words", () -> {
            TelegraphPrices book = Check.bookOf(30, 1);
            book.turnStandIn(0, 1);
            book.turnJoin(1, 1);
            Check.writeTimes(book, 0, 16);
            check.is("reword()", book.reword(), 40);
            check.isText("the telegram", Check.telegramOf(book), " 1+ 1 1+ 1 1+ 1 1+ 1 1+ 1 1+ 1 1+ 1 1+ 1");
            check.is("reword() again", book.reword(), 0);
        });
        check.sentence("11: it becomes the cheapest one, though it counts the same", () -> {
            TelegraphPrices pair = Check.bookOf(10, 10);
            pair.turnJoin(1, 1);
            Check.write(pair, 1, 1);
            pair.turnJoined(0);
            check.is("reword()", pair.reword(), 0);
            check.isText("a join that saves nothing is parted", Check.telegramOf(pair), " 1 1");
            pair.turnStandIn(1, 0);
            check.is("reword()", pair.reword(), 0);
            check.isText("the smaller number", Check.telegramOf(pair), " 0 0");
        });
        check.sentence("11: how much less it counts, below the least count", () -> {
            TelegraphPrices book = Check.bookOf(30, 1);
            book.turnStandIn(0, 1);
            Check.write(book, 0, 0);
            book.setLeastCount(6);
            check.is("reword()", book.reword(), 0);
            check.isText("the telegram", Check.telegramOf(book), " 1 1");
            TelegraphPrices one = Check.bookOf(30, 1);
            one.turnStandIn(0, 1);
            Check.write(one, 0, 0);
            one.setLeastCount(5);
            check.is("reword() down to the least count", one.reword(), 1);
        });
    }

    private static void rewordOfWhatMayBeNoMore(Check check) {
        check.sentence("11: less than 0, if it counts more, as joins were not allowed any more", () -> {
            TelegraphPrices book = fullOfPairs();
            book.turnJoin(0, 0);
            check.is("reword()", book.reword(), -8);
            check.isText("the telegram", Check.telegramOf(book), " 0 0 0 0 0 0 0 0 0 0 0 0 0 0 0 0");
            TelegraphPrices one = Check.bookOf(3);
            one.setLeastCount(1);
            one.turnJoin(0, 0);
            Check.write(one, 0, 0);
            one.turnJoined(0);
            one.turnJoin(0, 0);
            one.setLeastCount(2);
            check.is("reword() below the least count", one.reword(), 0);
        });
        check.sentence("11: a word that may stand there no more stays, as each stands for itself", () -> {
            TelegraphPrices book = Check.bookOf(30, 1);
            book.turnStandIn(0, 1);
            book.write(0);
            book.reword();
            book.turnStandIn(0, 1);
            check.is("reword()", book.reword(), 0);
            check.isText("the telegram", Check.telegramOf(book), " 1");
        });
    }

    private static void send(Check check) {
        check.sentence("12: throws if zone is not 0 to 3: too small", () -> {
            TelegraphPrices book = Check.bookOf(3);
            book.write(0);
            check.outside("send(-1)", book, () -> book.send(-1));
            check.outside("send(-2)", book, () -> book.send(-2));
            check.outside("send(MIN)", book, () -> book.send(MIN));
            check.is("send(0)", book.send(0), 10);
        });
        check.sentence("12: throws if zone is not 0 to 3: too large", () -> {
            TelegraphPrices book = Check.bookOf(3);
            book.write(0);
            check.outside("send(4)", book, () -> book.send(4));
            check.outside("send(MAX)", book, () -> book.send(MAX));
            check.is("send(3)", book.send(3), 25);
        });
        check.sentence("12: throws if it has no word", () -> {
            TelegraphPrices book = Check.bookOf(3);
            for (int zone = 0; zone < 4; zone++) {
                int to = zone;
                check.badState("send(" + zone + ")", book, () -> book.send(to));
            }
            book.write(0);
            check.is("of one word", book.send(0), 10);
            check.badState("sent already", book, () -> book.send(0));
            book.write(0);
            book.strike(0);
            check.badState("struck already", book, () -> book.send(0));
            book.setLeastCount(0);
            check.badState("without a least count", book, () -> book.send(0));
        });
        check.sentence("12: the zone is named ahead of no word", () -> {
            TelegraphPrices book = Check.bookOf(3);
            check.outside("send(4)", book, () -> book.send(4));
            check.outside("send(-1)", book, () -> book.send(-1));
        });
    }

    private static void sendEmpties(Check check) {
        check.sentence("12: it is empty then", () -> {
            TelegraphPrices book = fullOfPairs();
            check.is("send(0)", book.send(0), 16);
            check.is("length()", book.length(), 0);
            check.is("count()", book.count(), 0);
            check.is("cheapestCount()", book.cheapestCount(), 0);
            check.is("wordings()", book.wordings(), 1);
            check.outside("wordAt(0)", book, () -> book.wordAt(0));
            check.outside("turnJoined(0)", book, () -> book.turnJoined(0));
            check.is("the first word of the next one", book.write(1), 1);
            check.is("wordAt(0)", book.wordAt(0), 1);
        });
        check.sentence("12: the book stays", () -> {
            TelegraphPrices book = fullOfPairs();
            book.setLimit(4);
            book.setLeastCount(0);
            book.setCoins(3);
            book.send(0);
            check.isText("the state", Check.stateOf(book),
                "limit 4 least 0 coins 3 sent 1 earned 48 words 3:sj-- 4:--s- telegram");
        });
        check.sentence("12: returns what it costs: as priceTo just before", () -> {
            for (int zone = 0; zone < 4; zone++) {
                TelegraphPrices book = Check.bookOf(3);
                book.setCoins(1);
                book.setLeastCount(13);
                book.write(0);
                check.is("priceTo", book.priceTo(zone), 13 * (zone + 2) / 2);
                check.is("send", book.send(zone), 13 * (zone + 2) / 2);
            }
        });
        check.sentence("12: 512 calls, each second one sends", () -> {
            TelegraphPrices book = Check.bookOf(30);
            book.setLeastCount(20);
            book.setCoins(50);
            for (int number = 1; number <= 254; number++) {
                book.write(0);
                check.is("send(3)", book.send(3), 2500);
            }
            check.is("earned(), call 512", book.earned(), 635000);
        });
    }
}
