/** The pricing book of a telegraph without ciphers. */
public final class TelegraphPrices {
    private static final int MOST_WORDS = 12;
    private static final int MOST_LETTERS = 30;
    private static final int LEAST_LIMIT = 3;
    private static final int MOST_LIMIT = 15;
    private static final int MOST_LEAST_COUNT = 20;
    private static final int MOST_COINS = 50;
    private static final int MOST_PLACES = 16;
    private static final int ZONES = 4;
    private static final int MOST_WORDINGS = 1000000;
    private static final int PAIR_BASE = 100;
    private static final int NO_PAIR = -1;
    // More than any telegram counts, and small enough to be added to without a wrap-around.
    private static final int NO_COUNT = 1000000;

    // The book. Bit b of standIns[a]: b may stand for a. Bit b of joins[a]: a may be joined with b.
    private final int[] letters;
    private final int[] standIns;
    private final int[] joins;
    private int words;
    private int limit;
    private int leastCount;
    private int coins;

    // The telegram. The last place is never joined, and no two places in a row are.
    private final int[] telegram;
    private final boolean[] joined;
    private int length;

    private int sent;
    private int earned;

    // Rows for the search of the cheapest wording, made once so that no call makes an object.
    private final int[] leastAlone;
    private final int[] leastJoined;
    private final int[] leastTried;
    private final int[] leastFrom;
    private final int[] cheapestWords;
    private final boolean[] cheapestJoined;

    public TelegraphPrices() {
        letters = new int[MOST_WORDS];
        standIns = new int[MOST_WORDS];
        joins = new int[MOST_WORDS];
        words = 0;
        limit = 10;
        leastCount = 5;
        coins = 2;
        telegram = new int[MOST_PLACES];
        joined = new boolean[MOST_PLACES];
        length = 0;
        sent = 0;
        earned = 0;
        leastAlone = new int[MOST_PLACES];
        leastJoined = new int[MOST_PLACES];
        leastTried = new int[MOST_PLACES];
        // Two more, as a pair at the last place would look two places on.
        leastFrom = new int[MOST_PLACES + 2];
        cheapestWords = new int[MOST_PLACES];
        cheapestJoined = new boolean[MOST_PLACES];
    }

    // ---- the book

    public int addWord(int letters) throws IllegalArgumentException, IllegalStateException {
        if (letters < 1 || letters > MOST_LETTERS) {
            throw new IllegalArgumentException("a word has 1 to 30 letters");
        }
        if (words >= MOST_WORDS) {
            throw new IllegalStateException("there are 12 words");
        }
        int word = words;
        this.letters[word] = letters;
        standIns[word] = 1 << word;
        joins[word] = 0;
        words++;
        return word;
    }

    public boolean turnStandIn(int word, int other) throws IndexOutOfBoundsException, IllegalArgumentException {
        needWord(word);
        needWord(other);
        if (word == other) {
            throw new IllegalArgumentException("a word stands for itself anyway");
        }
        standIns[word] ^= 1 << other;
        return hasBit(standIns[word], other);
    }

    public boolean turnJoin(int word, int next) throws IndexOutOfBoundsException {
        needWord(word);
        needWord(next);
        joins[word] ^= 1 << next;
        return hasBit(joins[word], next);
    }

    public int setLimit(int letters) throws IllegalArgumentException {
        if (letters < LEAST_LIMIT || letters > MOST_LIMIT) {
            throw new IllegalArgumentException("the limit is 3 to 15 letters");
        }
        int before = limit;
        limit = letters;
        return before;
    }

    public int setLeastCount(int count) throws IllegalArgumentException {
        if (count < 0 || count > MOST_LEAST_COUNT) {
            throw new IllegalArgumentException("the least count is 0 to 20");
        }
        int before = leastCount;
        leastCount = count;
        return before;
    }

    public int setCoins(int coins) throws IllegalArgumentException {
        if (coins < 1 || coins > MOST_COINS) {
            throw new IllegalArgumentException("the coins for each are 1 to 50");
        }
        int before = this.coins;
        this.coins = coins;
        return before;
    }

    // ---- the telegram

    public int write(int word) throws IndexOutOfBoundsException, IllegalStateException {
        needWord(word);
        if (length >= MOST_PLACES) {
            throw new IllegalStateException("the telegram has 16 words");
        }
        telegram[length] = word;
        joined[length] = false;
        length++;
        return length;
    }

    public int strike(int place) throws IndexOutOfBoundsException {
        needPlace(place);
        if (place > 0) {
            joined[place - 1] = false;
        }
        for (int at = place; at + 1 < length; at++) {
            telegram[at] = telegram[at + 1];
            joined[at] = joined[at + 1];
        }
        length--;
        return length;
    }

    public boolean turnJoined(int place) throws IndexOutOfBoundsException, IllegalStateException {
        needPlace(place);
        needPlace(place + 1);
        if (!joined[place] && !couldBeJoined(place)) {
            throw new IllegalStateException("these places may not be joined");
        }
        joined[place] = !joined[place];
        return joined[place];
    }

    public int reword() {
        int before = count();
        noteCheapestWording();
        for (int place = 0; place < length; place++) {
            telegram[place] = cheapestWords[place];
            joined[place] = cheapestJoined[place];
        }
        return before - count();
    }

    public int send(int zone) throws IndexOutOfBoundsException, IllegalStateException {
        int cost = priceTo(zone);
        if (length == 0) {
            throw new IllegalStateException("the telegram has no word");
        }
        sent++;
        earned += cost;
        length = 0;
        return cost;
    }

    // ---- what there is

    public int words() {
        return words;
    }

    public int lettersOf(int word) throws IndexOutOfBoundsException {
        needWord(word);
        return letters[word];
    }

    public int countOf(int word) throws IndexOutOfBoundsException {
        needWord(word);
        return countOfLetters(letters[word]);
    }

    public boolean mayStandFor(int word, int other) throws IndexOutOfBoundsException {
        needWord(word);
        needWord(other);
        return hasBit(standIns[word], other);
    }

    public boolean mayJoin(int word, int next) throws IndexOutOfBoundsException {
        needWord(word);
        needWord(next);
        return hasBit(joins[word], next);
    }

    public int standInsOf(int word) throws IndexOutOfBoundsException {
        needWord(word);
        return Integer.bitCount(standIns[word]);
    }

    public int limit() {
        return limit;
    }

    public int leastCount() {
        return leastCount;
    }

    public int coins() {
        return coins;
    }

    public int length() {
        return length;
    }

    public int wordAt(int place) throws IndexOutOfBoundsException {
        needPlace(place);
        return telegram[place];
    }

    public boolean isJoined(int place) throws IndexOutOfBoundsException {
        needPlace(place);
        return joined[place];
    }

    public int count() {
        int sum = 0;
        int place = 0;
        while (place < length) {
            if (joined[place] && place + 1 < length) {
                sum += countOfPair(telegram[place], telegram[place + 1]);
                place += 2;
            } else {
                sum += countOfLetters(letters[telegram[place]]);
                place++;
            }
        }
        return atLeastTheLeastCount(sum);
    }

    public int price() {
        return count() * coins;
    }

    public int priceTo(int zone) throws IndexOutOfBoundsException {
        if (zone < 0 || zone >= ZONES) {
            throw new IndexOutOfBoundsException("the zones are 0 to 3");
        }
        return price() * (zone + 2) / 2;
    }

    public int sent() {
        return sent;
    }

    public int earned() {
        return earned;
    }

    // ---- wordings

    public int cheapestCount() {
        noteLeastCounts();
        return atLeastTheLeastCount(leastInAll(leastJoined));
    }

    public int cheapestWordAt(int place) throws IndexOutOfBoundsException {
        needPlace(place);
        noteCheapestWording();
        return cheapestWords[place];
    }

    public boolean isJoinedInCheapest(int place) throws IndexOutOfBoundsException {
        needPlace(place);
        noteCheapestWording();
        return cheapestJoined[place];
    }

    public int saves() {
        return price() - cheapestCount() * coins;
    }

    public int wordings() {
        int number = 1;
        for (int place = 0; place < length; place++) {
            // At most 12 million ahead of the cut, so that an int is enough.
            number = Math.min(number * Integer.bitCount(standIns[telegram[place]]), MOST_WORDINGS);
        }
        return number;
    }

    public int bestJoin() {
        int least = cheapestCount();
        int best = NO_PAIR;
        for (int first = 0; first < words; first++) {
            for (int second = 0; second < words; second++) {
                if (!hasBit(joins[first], second)) {
                    int count = cheapestCountWithJoin(first, second);
                    if (count < least) {
                        least = count;
                        best = first * PAIR_BASE + second;
                    }
                }
            }
        }
        return best;
    }

    public double meanCost() {
        if (sent == 0) {
            return 0.0;
        }
        return (double) earned / (double) sent;
    }

    public long digest() {
        long d = 1913L;
        d = d * 31 + words;
        d = d * 31 + limit;
        d = d * 31 + leastCount;
        d = d * 31 + coins;
        d = d * 31 + length;
        d = d * 31 + count();
        d = d * 31 + price();
        d = d * 31 + cheapestCount();
        d = d * 31 + sent;
        d = d * 31 + earned;
        return digestOfPlaces(digestOfWords(d));
    }

    // ---- what the calls share

    private void needWord(int word) {
        if (word < 0 || word >= words) {
            throw new IndexOutOfBoundsException("there is no such word");
        }
    }

    private void needPlace(int place) {
        if (place < 0 || place >= length) {
            throw new IndexOutOfBoundsException("there is no such place");
        }
    }

    private static boolean hasBit(int bits, int bit) {
        return ((bits >> bit) & 1) == 1;
    }

    private int countOfLetters(int number) {
        return (number + limit - 1) / limit;
    }

    private int countOfPair(int first, int second) {
        return countOfLetters(letters[first] + letters[second]);
    }

    private int atLeastTheLeastCount(int sum) {
        return length == 0 ? 0 : Math.max(sum, leastCount);
    }

    /** Whether the words of this place and the next one may be joined, and neither is with another one. */
    private boolean couldBeJoined(int place) {
        boolean taken = place > 0 && joined[place - 1] || joined[place + 1];
        return !taken && hasBit(joins[telegram[place]], telegram[place + 1]);
    }

    /** Whether an honest wording may have the word at the place. */
    private boolean mayHold(int place, int word) {
        return place < length && hasBit(standIns[telegram[place]], word);
    }

    private void noteLeastCounts() {
        for (int place = 0; place < length; place++) {
            leastAlone[place] = countOfLetters(letters[bestWordAt(place)]);
            int pair = bestPairAt(place);
            leastJoined[place] = pair == NO_PAIR ? NO_COUNT : countOfPair(pair / PAIR_BASE, pair % PAIR_BASE);
        }
    }

    /** The word that counts the least at the place, if it is not joined; of several the smallest. */
    private int bestWordAt(int place) {
        int best = telegram[place];
        int least = NO_COUNT;
        for (int word = 0; word < words; word++) {
            if (mayHold(place, word) && countOfLetters(letters[word]) < least) {
                best = word;
                least = countOfLetters(letters[word]);
            }
        }
        return best;
    }

    /** The words that count the least at the place and the next one, if they are joined, as bestJoin tells pairs. */
    private int bestPairAt(int place) {
        int best = NO_PAIR;
        int least = NO_COUNT;
        for (int first = 0; first < words; first++) {
            if (mayHold(place, first)) {
                for (int second = 0; second < words; second++) {
                    boolean may = mayHold(place + 1, second) && hasBit(joins[first], second);
                    if (may && countOfPair(first, second) < least) {
                        best = first * PAIR_BASE + second;
                        least = countOfPair(first, second);
                    }
                }
            }
        }
        return best;
    }

    /** Notes what the telegram counts at least from each place on, the least count left aside. */
    private int leastInAll(int[] joinedCounts) {
        leastFrom[length] = 0;
        leastFrom[length + 1] = 0;
        for (int place = length - 1; place >= 0; place--) {
            int alone = leastAlone[place] + leastFrom[place + 1];
            leastFrom[place] = Math.min(alone, joinedCounts[place] + leastFrom[place + 2]);
        }
        return leastFrom[0];
    }

    /** What cheapestCount would be if these words might be joined; leastAlone and leastJoined must be noted. */
    private int cheapestCountWithJoin(int first, int second) {
        int count = countOfPair(first, second);
        for (int place = 0; place < length; place++) {
            boolean fits = mayHold(place, first) && mayHold(place + 1, second);
            leastTried[place] = fits ? Math.min(leastJoined[place], count) : leastJoined[place];
        }
        return atLeastTheLeastCount(leastInAll(leastTried));
    }

    private void noteCheapestWording() {
        noteLeastCounts();
        leastInAll(leastJoined);
        int place = 0;
        while (place < length) {
            int pair = bestPairAt(place);
            if (pair == NO_PAIR || leastAlone[place] + leastFrom[place + 1] == leastFrom[place]) {
                noteCheapestAt(place, bestWordAt(place), false);
                place++;
            } else {
                noteCheapestAt(place, pair / PAIR_BASE, true);
                noteCheapestAt(place + 1, pair % PAIR_BASE, false);
                place += 2;
            }
        }
    }

    private void noteCheapestAt(int place, int word, boolean withNext) {
        cheapestWords[place] = word;
        cheapestJoined[place] = withNext;
    }

    private long digestOfWords(long start) {
        long d = start;
        for (int word = 0; word < words; word++) {
            d = d * 31 + letters[word];
            d = d * 31 + countOf(word);
            d = d * 31 + standInsOf(word);
        }
        return d;
    }

    private long digestOfPlaces(long start) {
        noteCheapestWording();
        long d = start;
        for (int place = 0; place < length; place++) {
            d = d * 31 + telegram[place];
            d = d * 31 + (joined[place] ? 1 : 0);
            d = d * 31 + cheapestWords[place];
            d = d * 31 + (cheapestJoined[place] ? 1 : 0);
        }
        return d;
    }
}
