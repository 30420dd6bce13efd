/** Counts what holds and what does not, and tells what does not. */
final class Check {
    interface Call {
        void run();
    }

    private int right = 0;
    private int wrong = 0;
    private String sentence = "";

    /** One sentence of the document and its own test, which must check something and end by itself. */
    void sentence(String text, Call test) {
        int before = right + wrong;
        sentence = text + " | ";
        try {
            test.run();
        } catch (RuntimeException thrown) {
            note(false, "the test threw " + thrown);
        }
        if (right + wrong == before) {
            note(false, "nothing is checked");
        }
        sentence = "";
    }

    void is(String what, long got, long due) {
        note(got == due, what + " answered " + got + ", due is " + due);
    }

    void is(String what, boolean got, boolean due) {
        note(got == due, what + " answered " + got + ", due is " + due);
    }

    void isDouble(String what, double got, double due) {
        note(got == due, what + " answered " + got + ", due is " + due);
    }

    void isText(String what, String got, String due) {
        note(got.equals(due), what + " answered " + got + ", due is " + due);
    }

    /** The call throws just this exception, made by the program's own throw, and changes nothing. */
    void refuses(String what, TelegraphPrices book, Class<? extends RuntimeException> due, Call call) {
        String before = everythingOf(book);
        try {
            call.run();
            note(false, what + " threw nothing, due is " + due.getName());
        } catch (RuntimeException thrown) {
            note(thrown.getClass() == due, what + " threw " + thrown + ", due is " + due.getName());
        }
        isText(what + ", all answers behind it", everythingOf(book), before);
    }

    void outside(String what, TelegraphPrices book, Call call) {
        refuses(what, book, IndexOutOfBoundsException.class, call);
    }

    void badArgument(String what, TelegraphPrices book, Call call) {
        refuses(what, book, IllegalArgumentException.class, call);
    }

    void badState(String what, TelegraphPrices book, Call call) {
        refuses(what, book, IllegalStateException.class, call);
    }

    void end() {
        System.out.println(right + " checks hold, " + wrong + " do not");
        if (wrong != 0 || right == 0) {
            System.exit(1);
        }
    }

    private void note(boolean holds, String otherwise) {
        if (holds) {
            right++;
        } else {
            wrong++;
            System.out.println(sentence + otherwise);
        }
    }

    /** Every answer that tells of the state without changing it. */
    static String stateOf(TelegraphPrices book) {
        StringBuilder text = new StringBuilder();
        text.append("limit ").append(book.limit()).append(" least ").append(book.leastCount());
        text.append(" coins ").append(book.coins()).append(" sent ").append(book.sent());
        text.append(" earned ").append(book.earned()).append(" words");
        for (int word = 0; word < book.words(); word++) {
            text.append(' ').append(book.lettersOf(word)).append(':');
            for (int other = 0; other < book.words(); other++) {
                text.append(book.mayStandFor(word, other) ? 's' : '-');
                text.append(book.mayJoin(word, other) ? 'j' : '-');
            }
        }
        return text.append(" telegram").append(telegramOf(book)).toString();
    }

    /** The state, and what is reckoned from it. */
    static String everythingOf(TelegraphPrices book) {
        StringBuilder text = new StringBuilder(stateOf(book));
        text.append(" count ").append(book.count()).append(" price ").append(book.price());
        text.append(" cheapest ").append(book.cheapestCount()).append(cheapestOf(book));
        text.append(" saves ").append(book.saves()).append(" wordings ").append(book.wordings());
        text.append(" best ").append(book.bestJoin()).append(" mean ").append(book.meanCost());
        return text.append(" digest ").append(book.digest()).toString();
    }

    /** The words of the telegram; + stands behind one that is joined with the next one. */
    static String telegramOf(TelegraphPrices book) {
        StringBuilder text = new StringBuilder();
        for (int place = 0; place < book.length(); place++) {
            text.append(' ').append(book.wordAt(place)).append(book.isJoined(place) ? "+" : "");
        }
        return text.toString();
    }

    /** The words of the cheapest honest wording, written likewise. */
    static String cheapestOf(TelegraphPrices book) {
        StringBuilder text = new StringBuilder();
        for (int place = 0; place < book.length(); place++) {
            text.append(' ').append(book.cheapestWordAt(place)).append(book.isJoinedInCheapest(place) ? "+" : "");
        }
        return text.toString();
    }

    /** A book with 12 words, of 1 to 12 letters. */
    static TelegraphPrices fullBook() {
        return bookOf(1, 2, 3, 4, 5, 6, 7, 8, 9, 10, 11, 12);
    }

    /** A book with words of so many letters. */
    static TelegraphPrices bookOf(int... letters) {
        TelegraphPrices book = new TelegraphPrices();
        for (int number : letters) {
            book.addWord(number);
        }
        return book;
    }

    static void writeTimes(TelegraphPrices book, int word, int times) {
        for (int time = 0; time < times; time++) {
            book.write(word);
        }
    }

    static void write(TelegraphPrices book, int... words) {
        for (int word : words) {
            book.write(word);
        }
    }
}
