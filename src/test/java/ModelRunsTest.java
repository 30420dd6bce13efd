/** Promises 1 to 37: long runs of calls, each answer beside that of the slow model. */
public final class ModelRunsTest {
    private static final int RUNS = 400;
    private static final int CALLS = 512;
    private static final int[] FAR = {Integer.MIN_VALUE, -1000, -32, -2, -1, 12, 16, 31, 32, 33, 1000, Integer.MAX_VALUE};
    // How often each call comes, in the order of the face: what builds comes often, what empties seldom.
    private static final int[] WEIGHTS = {
        12, 14, 16, 3, 4, 2,
        30, 4, 14, 3, 1,
        1, 2, 2, 2, 2, 2, 1, 1, 1, 1, 3, 3, 4, 3, 3, 1, 1,
        8, 8, 8, 4, 4, 4, 1, 4};
    private static final String[] NAMES = {
        "addWord", "turnStandIn", "turnJoin", "setLimit", "setLeastCount", "setCoins",
        "write", "strike", "turnJoined", "reword", "send",
        "words", "lettersOf", "countOf", "mayStandFor", "mayJoin", "standInsOf", "limit", "leastCount", "coins",
        "length", "wordAt", "isJoined", "count", "price", "priceTo", "sent", "earned",
        "cheapestCount", "cheapestWordAt", "isJoinedInCheapest", "saves", "wordings", "bestJoin", "meanCost", "digest"};

    private long seed = 1913;

    public static void main(String[] args) {
        Check check = new Check();
        ModelRunsTest test = new ModelRunsTest();
        for (int run = 0; run < RUNS; run++) {
            test.run(check, run);
        }
        check.end();
    }

    /** The same numbers in every run of the test, so that a wrong answer can be found again. */
    private int below(int bound) {
        seed = seed * 6364136223846793005L + 1442695040888963407L;
        return (int) ((seed >>> 33) % bound);
    }

    private int within(int least, int most) {
        int chance = below(40);
        if (chance == 0) {
            return FAR[below(FAR.length)];
        }
        return chance == 1 ? (below(2) == 0 ? least - 1 : most + 1) : least + below(most - least + 1);
    }

    private int callByWeight() {
        int sum = 0;
        for (int weight : WEIGHTS) {
            sum += weight;
        }
        int left = below(sum);
        int call = 0;
        while (left >= WEIGHTS[call]) {
            left -= WEIGHTS[call];
            call++;
        }
        return call;
    }

    private void run(Check check, int run) {
        TelegraphPrices book = new TelegraphPrices();
        SlowModel model = new SlowModel();
        int mostWords = run % 2 == 0 ? 12 : 1 + below(6);
        int mostLetters = run % 3 == 0 ? 30 : 9;
        for (int number = 0; number < CALLS; number++) {
            int call = callByWeight();
            if (call == 0 && model.words() >= mostWords && below(8) != 0) {
                call = NAMES.length - 1;
            }
            int a = firstArgument(call, model, mostLetters);
            int b = within(0, Math.max(0, model.words() - 1));
            String what = "run " + run + ", call " + number + ": " + NAMES[call] + " of " + a + ", " + b;
            check.isText(what, answerOf(book, call, a, b), answerOf(model, call, a, b));
        }
    }

    private int firstArgument(int call, SlowModel model, int mostLetters) {
        switch (NAMES[call]) {
            case "addWord":
                return within(1, mostLetters);
            case "setLimit":
                return within(3, 15);
            case "setLeastCount":
                return within(0, 20);
            case "setCoins":
                return within(1, 50);
            case "send":
            case "priceTo":
                return within(0, 3);
            case "strike":
            case "turnJoined":
            case "wordAt":
            case "isJoined":
            case "cheapestWordAt":
            case "isJoinedInCheapest":
                return within(0, Math.max(0, model.length() - 1));
            default:
                return within(0, Math.max(0, model.words() - 1));
        }
    }

    private static String answerOf(TelegraphPrices x, int call, int a, int b) {
        try {
            return "" + answer(x, call, a, b);
        } catch (RuntimeException thrown) {
            return thrown.getClass().getName();
        }
    }

    private static String answerOf(SlowModel x, int call, int a, int b) {
        try {
            return "" + answer(x, call, a, b);
        } catch (RuntimeException thrown) {
            return thrown.getClass().getName();
        }
    }

    private static Object answer(TelegraphPrices x, int call, int a, int b) {
        switch (NAMES[call]) {
            case "addWord": return x.addWord(a);
            case "turnStandIn": return x.turnStandIn(a, b);
            case "turnJoin": return x.turnJoin(a, b);
            case "setLimit": return x.setLimit(a);
            case "setLeastCount": return x.setLeastCount(a);
            case "setCoins": return x.setCoins(a);
            case "write": return x.write(a);
            case "strike": return x.strike(a);
            case "turnJoined": return x.turnJoined(a);
            case "reword": return x.reword();
            case "send": return x.send(a);
            case "words": return x.words();
            case "lettersOf": return x.lettersOf(a);
            case "countOf": return x.countOf(a);
            case "mayStandFor": return x.mayStandFor(a, b);
            case "mayJoin": return x.mayJoin(a, b);
            case "standInsOf": return x.standInsOf(a);
            case "limit": return x.limit();
            case "leastCount": return x.leastCount();
            case "coins": return x.coins();
            case "length": return x.length();
            case "wordAt": return x.wordAt(a);
            case "isJoined": return x.isJoined(a);
            case "count": return x.count();
            case "price": return x.price();
            case "priceTo": return x.priceTo(a);
            case "sent": return x.sent();
            case "earned": return x.earned();
            case "cheapestCount": return x.cheapestCount();
            case "cheapestWordAt": return x.cheapestWordAt(a);
            case "isJoinedInCheapest": return x.isJoinedInCheapest(a);
            case "saves": return x.saves();
            case "wordings": return x.wordings();
            case "bestJoin": return x.bestJoin();
            case "meanCost": return x.meanCost();
            case "digest": return x.digest();
            default: throw new IllegalStateException("no such call");
        }
    }

    private static Object answer(SlowModel x, int call, int a, int b) {
        switch (NAMES[call]) {
            case "addWord": return x.addWord(a);
            case "turnStandIn": return x.turnStandIn(a, b);
            case "turnJoin": return x.turnJoin(a, b);
            case "setLimit": return x.setLimit(a);
            case "setLeastCount": return x.setLeastCount(a);
            case "setCoins": return x.setCoins(a);
            case "write": return x.write(a);
            case "strike": return x.strike(a);
            case "turnJoined": return x.turnJoined(a);
            case "reword": return x.reword();
            case "send": return x.send(a);
            case "words": return x.words();
            case "lettersOf": return x.lettersOf(a);
            case "countOf": return x.countOf(a);
            case "mayStandFor": return x.mayStandFor(a, b);
            case "mayJoin": return x.mayJoin(a, b);
            case "standInsOf": return x.standInsOf(a);
            case "limit": return x.limit();
            case "leastCount": return x.leastCount();
            case "coins": return x.coins();
            case "length": return x.length();
            case "wordAt": return x.wordAt(a);
            case "isJoined": return x.isJoined(a);
            case "count": return x.count();
            case "price": return x.price();
            case "priceTo": return x.priceTo(a);
            case "sent": return x.sent();
            case "earned": return x.earned();
            case "cheapestCount": return x.cheapestCount();
            case "cheapestWordAt": return x.cheapestWordAt(a);
            case "isJoinedInCheapest": return x.isJoinedInCheapest(a);
            case "saves": return x.saves();
            case "wordings": return x.wordings();
            case "bestJoin": return x.bestJoin();
            case "meanCost": return x.meanCost();
            case "digest": return x.digest();
            default: throw new IllegalStateException("no such call");
        }
    }
}
