import java.util.ArrayList;
import java.util.List;

/**
 * The document once more, in another and a slower way: the cheapest wording is looked for among all wordings,
 * or, if there are too many of them, by whole beginnings and not by whole ends.
 */
final class SlowModel {
    private static final int FEW = 3000;

    private static final class Wording {
        final List<Integer> words = new ArrayList<>();
        final List<Boolean> joined = new ArrayList<>();

        Wording copy() {
            Wording copy = new Wording();
            copy.words.addAll(words);
            copy.joined.addAll(joined);
            return copy;
        }

        Wording with(int word) {
            Wording longer = copy();
            longer.words.add(word);
            longer.joined.add(false);
            return longer;
        }

        Wording withPair(int first, int second) {
            Wording longer = with(first).with(second);
            longer.joined.set(longer.joined.size() - 2, true);
            return longer;
        }

        boolean goesAheadOf(Wording other) {
            for (int place = 0; place < words.size(); place++) {
                if (!joined.get(place).equals(other.joined.get(place))) {
                    return !joined.get(place);
                }
                if (!words.get(place).equals(other.words.get(place))) {
                    return words.get(place) < other.words.get(place);
                }
            }
            return false;
        }
    }

    private final List<Integer> letters = new ArrayList<>();
    private final boolean[][] stands = new boolean[12][12];
    private final boolean[][] joins = new boolean[12][12];
    private final List<Integer> costs = new ArrayList<>();
    private Wording telegram = new Wording();
    private int limit = 10;
    private int leastCount = 5;
    private int coins = 2;

    private static void argument(boolean right) {
        if (!right) {
            throw new IllegalArgumentException();
        }
    }

    private static void state(boolean right) {
        if (!right) {
            throw new IllegalStateException();
        }
    }

    private static void within(int index, int size) {
        if (index < 0 || index >= size) {
            throw new IndexOutOfBoundsException();
        }
    }

    private int countFor(int number) {
        int count = 0;
        for (int left = number; left > 0; left -= limit) {
            count++;
        }
        return count;
    }

    private int sumOf(Wording wording) {
        int sum = 0;
        for (int place = 0; place < wording.words.size(); place++) {
            int number = letters.get(wording.words.get(place));
            if (wording.joined.get(place)) {
                place++;
                number += letters.get(wording.words.get(place));
            }
            sum += countFor(number);
        }
        return sum;
    }

    private int countOf(Wording wording) {
        return wording.words.isEmpty() ? 0 : Math.max(leastCount, sumOf(wording));
    }

    private boolean honest(int place, int word) {
        int there = telegram.words.get(place);
        return there == word || stands[there][word];
    }

    private Wording better(Wording one, Wording other) {
        if (one == null || sumOf(other) < sumOf(one)) {
            return other;
        }
        return sumOf(other) == sumOf(one) && other.goesAheadOf(one) ? other : one;
    }

    private List<Wording> nextOnes(Wording start) {
        List<Wording> next = new ArrayList<>();
        int place = start.words.size();
        for (int first = 0; first < letters.size(); first++) {
            if (honest(place, first)) {
                next.add(start.with(first));
                for (int second = 0; place + 1 < length() && second < letters.size(); second++) {
                    if (honest(place + 1, second) && joins[first][second]) {
                        next.add(start.withPair(first, second));
                    }
                }
            }
        }
        return next;
    }

    private Wording bestOfAll(Wording start) {
        if (start.words.size() == length()) {
            return start;
        }
        Wording best = null;
        for (Wording next : nextOnes(start)) {
            best = better(best, bestOfAll(next));
        }
        return best;
    }

    /** Of two beginnings of one length the better one stays the better one, whatever comes behind them. */
    private Wording bestByBeginnings() {
        Wording[] best = new Wording[length() + 2];
        best[0] = new Wording();
        for (int place = 0; place < length(); place++) {
            for (Wording next : nextOnes(best[place])) {
                int size = next.words.size();
                best[size] = better(best[size], next);
            }
        }
        return best[length()];
    }

    private Wording cheapest() {
        long wordings = 1;
        for (int place = 0; place < length(); place++) {
            wordings = Math.min(FEW, wordings * standInsOf(telegram.words.get(place)) * 2);
        }
        return wordings < FEW ? bestOfAll(new Wording()) : bestByBeginnings();
    }

    int addWord(int number) {
        argument(number >= 1 && number <= 30);
        state(letters.size() < 12);
        letters.add(number);
        return letters.size() - 1;
    }

    boolean turnStandIn(int word, int other) {
        within(word, words());
        within(other, words());
        argument(word != other);
        return stands[word][other] = !stands[word][other];
    }

    boolean turnJoin(int word, int next) {
        within(word, words());
        within(next, words());
        return joins[word][next] = !joins[word][next];
    }

    int setLimit(int number) {
        argument(number >= 3 && number <= 15);
        int before = limit;
        limit = number;
        return before;
    }

    int setLeastCount(int count) {
        argument(count >= 0 && count <= 20);
        int before = leastCount;
        leastCount = count;
        return before;
    }

    int setCoins(int number) {
        argument(number >= 1 && number <= 50);
        int before = coins;
        coins = number;
        return before;
    }

    int write(int word) {
        within(word, words());
        state(length() < 16);
        telegram = telegram.with(word);
        return length();
    }

    int strike(int place) {
        within(place, length());
        if (place > 0) {
            telegram.joined.set(place - 1, false);
        }
        telegram.joined.remove(place);
        telegram.words.remove(place);
        return length();
    }

    boolean turnJoined(int place) {
        within(place, length() - 1);
        boolean before = telegram.joined.get(place);
        if (!before) {
            state(joins[telegram.words.get(place)][telegram.words.get(place + 1)]);
            state(!telegram.joined.get(place + 1));
            state(place == 0 || !telegram.joined.get(place - 1));
        }
        telegram.joined.set(place, !before);
        return !before;
    }

    int reword() {
        int before = count();
        telegram = cheapest();
        return before - count();
    }

    int send(int zone) {
        within(zone, 4);
        state(length() > 0);
        costs.add(priceTo(zone));
        telegram = new Wording();
        return costs.get(costs.size() - 1);
    }

    int words() {
        return letters.size();
    }

    int lettersOf(int word) {
        within(word, words());
        return letters.get(word);
    }

    int countOf(int word) {
        return countFor(lettersOf(word));
    }

    boolean mayStandFor(int word, int other) {
        within(word, words());
        within(other, words());
        return word == other || stands[word][other];
    }

    boolean mayJoin(int word, int next) {
        within(word, words());
        within(next, words());
        return joins[word][next];
    }

    int standInsOf(int word) {
        within(word, words());
        int number = 1;
        for (boolean may : stands[word]) {
            number += may ? 1 : 0;
        }
        return number;
    }

    int limit() {
        return limit;
    }

    int leastCount() {
        return leastCount;
    }

    int coins() {
        return coins;
    }

    int length() {
        return telegram.words.size();
    }

    int wordAt(int place) {
        within(place, length());
        return telegram.words.get(place);
    }

    boolean isJoined(int place) {
        within(place, length());
        return telegram.joined.get(place);
    }

    int count() {
        return countOf(telegram);
    }

    int price() {
        return count() * coins;
    }

    int priceTo(int zone) {
        within(zone, 4);
        return count() * coins * (zone + 2) / 2;
    }

    int sent() {
        return costs.size();
    }

    int earned() {
        int sum = 0;
        for (int cost : costs) {
            sum += cost;
        }
        return sum;
    }

    int cheapestCount() {
        return countOf(cheapest());
    }

    int cheapestWordAt(int place) {
        within(place, length());
        return cheapest().words.get(place);
    }

    boolean isJoinedInCheapest(int place) {
        within(place, length());
        return cheapest().joined.get(place);
    }

    int saves() {
        return count() * coins - cheapestCount() * coins;
    }

    int wordings() {
        double number = 1;
        for (int word : telegram.words) {
            number *= standInsOf(word);
        }
        return number > 1000000 ? 1000000 : (int) number;
    }

    int bestJoin() {
        int least = cheapestCount();
        int best = -1;
        for (int pair = 0; pair < 1200; pair++) {
            int first = pair / 100;
            int second = pair % 100;
            if (first < words() && second < words() && !joins[first][second]) {
                joins[first][second] = true;
                int count = cheapestCount();
                joins[first][second] = false;
                if (count < least) {
                    least = count;
                    best = pair;
                }
            }
        }
        return best;
    }

    double meanCost() {
        return costs.isEmpty() ? 0 : earned() / (double) costs.size();
    }

    long digest() {
        List<Integer> numbers = new ArrayList<>(List.of(words(), limit, leastCount, coins, length(), count(), price(),
            cheapestCount(), sent(), earned()));
        for (int word = 0; word < words(); word++) {
            numbers.addAll(List.of(lettersOf(word), countOf(word), standInsOf(word)));
        }
        Wording cheapest = cheapest();
        for (int place = 0; place < length(); place++) {
            numbers.addAll(List.of(wordAt(place), isJoined(place) ? 1 : 0));
            numbers.addAll(List.of(cheapest.words.get(place), cheapest.joined.get(place) ? 1 : 0));
        }
        long d = 1913;
        for (int number : numbers) {
            d = d * 31 + number;
        }
        return d;
    }
}
