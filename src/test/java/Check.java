/** Counts what holds and what does not, and tells what does not. */
final class Check {
    interface Call {
        void run();
    }

    private int right = 0;
    private int wrong = 0;

    void is(String what, long got, long due) {
        note(got == due, what + " answered " + got + ", due is " + due);
    }

    void is(String what, boolean got, boolean due) {
        note(got == due, what + " answered " + got + ", due is " + due);
    }

    void isDouble(String what, double got, double due) {
        note(got == due, what + " answered " + got + ", due is " + due);
    }

    void isText(String what, String got, String due) {
        note(got.equals(due), what + " answered " + got + ", due is " + due);
    }

    /** The call throws just this exception, made by the program's own throw, and changes nothing. */
    void refuses(String what, TelegraphPrices book, Class<? extends RuntimeException> due, Call call) {
        String before = stateOf(book);
        try {
            call.run();
            note(false, what + " threw nothing, due is " + due.getName());
        } catch (RuntimeException thrown) {
            note(thrown.getClass() == due, what + " threw " + thrown + ", due is " + due.getName());
        }
        isText(what + ", the state behind it", stateOf(book), before);
    }

    void outside(String what, TelegraphPrices book, Call call) {
        refuses(what, book, IndexOutOfBoundsException.class, call);
    }

    void badArgument(String what, TelegraphPrices book, Call call) {
        refuses(what, book, IllegalArgumentException.class, call);
    }

    void badState(String what, TelegraphPrices book, Call call) {
        refuses(what, book, IllegalStateException.class, call);
    }

    void end() {
        System.out.println(right + " checks hold, " + wrong + " do not");
        if (wrong != 0 || right == 0) {
            System.exit(1);
        }
    }

    private void note(boolean holds, String otherwise) {
        if (holds) {
            right++;
        } else {
            wrong++;
            System.out.println(otherwise);
        }
    }

    /** Every answer that tells of the state without changing it. */
    static String stateOf(TelegraphPrices book) {
        StringBuilder text = new StringBuilder();
        text.append("limit ").append(book.limit()).append(" least ").append(book.leastCount());
        text.append(" coins ").append(book.coins()).append(" sent ").append(book.sent());
        text.append(" earned ").append(book.earned()).append(" words");
        for (int word = 0; word < book.words(); word++) {
            text.append(' ').append(book.lettersOf(word)).append(':');
            for (int other = 0; other < book.words(); other++) {
                text.append(book.mayStandFor(word, other) ? 's' : '-');
                text.append(book.mayJoin(word, other) ? 'j' : '-');
            }
        }
        return text.append(" telegram").append(telegramOf(book)).toString();
    }

    /** The words of the telegram; + stands behind one that is joined with the next one. */
    static String telegramOf(TelegraphPrices book) {
        StringBuilder text = new StringBuilder();
        for (int place = 0; place < book.length(); place++) {
            text.append(' ').append(book.wordAt(place)).append(book.isJoined(place) ? "+" : "");
        }
        return text.toString();
    }

    /** The words of the cheapest honest wording, written likewise. */
    static String cheapestOf(TelegraphPrices book) {
        StringBuilder text = new StringBuilder();
        for (int place = 0; place < book.length(); place++) {
            text.append(' ').append(book.cheapestWordAt(place)).append(book.isJoinedInCheapest(place) ? "+" : "");
        }
        return text.toString();
    }

    /** A book with words of so many letters. */
    static TelegraphPrices bookOf(int... letters) {
        TelegraphPrices book = new TelegraphPrices();
        for (int number : letters) {
            book.addWord(number);
        }
        return book;
    }

    static void write(TelegraphPrices book, int... words) {
        for (int word : words) {
            book.write(word);
        }
    }
}
