import java.lang.reflect.InvocationTargetException;
import java.lang.reflect.Method;
import java.util.Arrays;

/** Promises 1 to 37: long runs of calls, each answer beside that of the slow model. */
public final class ModelRunsTest {
    private static final int RUNS = 400;
    private static final int CALLS = 512;
    private static final int[] FAR = {Integer.MIN_VALUE, -1000, -32, -2, -1, 12, 16, 31, 32, 33, 1000, Integer.MAX_VALUE};
    // How often each call comes, in the order of the face: what builds comes often, what empties seldom.
    private static final int[] WEIGHTS = {
        12, 14, 16, 3, 4, 2,
        30, 4, 14, 3, 1,
        1, 2, 2, 2, 2, 2, 1, 1, 1, 1, 3, 3, 4, 3, 3, 1, 1,
        8, 8, 8, 4, 4, 4, 1, 4};
    private static final String[] NAMES = {
        "addWord", "turnStandIn", "turnJoin", "setLimit", "setLeastCount", "setCoins",
        "write", "strike", "turnJoined", "reword", "send",
        "words", "lettersOf", "countOf", "mayStandFor", "mayJoin", "standInsOf", "limit", "leastCount", "coins",
        "length", "wordAt", "isJoined", "count", "price", "priceTo", "sent", "earned",
        "cheapestCount", "cheapestWordAt", "isJoinedInCheapest", "saves", "wordings", "bestJoin", "meanCost", "digest"};

    private long seed = 1913;

    public static void main(String[] args) {
        Check check = new Check();
        ModelRunsTest test = new ModelRunsTest();
        for (int run = 0; run < RUNS; run++) {
            test.run(check, run);
        }
        check.end();
    }

    /** The same numbers in every run of the test, so that a wrong answer can be found again. */
    private int below(int bound) {
        seed = seed * 6364136223846793005L + 1442695040888963407L;
        return (int) ((seed >>> 33) % bound);
    }

    private int within(int least, int most) {
        int chance = below(40);
        if (chance == 0) {
            return FAR[below(FAR.length)];
        }
        return chance == 1 ? (below(2) == 0 ? least - 1 : most + 1) : least + below(most - least + 1);
    }

    private int callByWeight() {
        int sum = 0;
        for (int weight : WEIGHTS) {
            sum += weight;
        }
        int left = below(sum);
        int call = 0;
        while (left >= WEIGHTS[call]) {
            left -= WEIGHTS[call];
            call++;
        }
        return call;
    }

    private void run(Check check, int run) {
        TelegraphPrices book = new TelegraphPrices();
        SlowModel model = new SlowModel();
        int mostWords = run % 2 == 0 ? 12 : 1 + below(6);
        int mostLetters = run % 3 == 0 ? 30 : 9;
        for (int number = 0; number < CALLS; number++) {
            int call = callByWeight();
            if (call == 0 && model.words() >= mostWords && below(8) != 0) {
                call = NAMES.length - 1;
            }
            int a = firstArgument(call, model, mostLetters);
            int b = within(0, Math.max(0, model.words() - 1));
            String what = "run " + run + ", call " + number + ": " + NAMES[call] + " of " + a + ", " + b;
            check.isText(what, answerOf(book, call, a, b), answerOf(model, call, a, b));
        }
    }

    private int firstArgument(int call, SlowModel model, int mostLetters) {
        switch (NAMES[call]) {
            case "addWord":
                return within(1, mostLetters);
            case "setLimit":
                return within(3, 15);
            case "setLeastCount":
                return within(0, 20);
            case "setCoins":
                return within(1, 50);
            case "send":
            case "priceTo":
                return within(0, 3);
            case "strike":
            case "turnJoined":
            case "wordAt":
            case "isJoined":
            case "cheapestWordAt":
            case "isJoinedInCheapest":
                return within(0, Math.max(0, model.length() - 1));
            default:
                return within(0, Math.max(0, model.words() - 1));
        }
    }

    /** The answer, or the exception's name; the program and the model bear the same names, but no common type. */
    private static String answerOf(Object x, int call, int a, int b) {
        try {
            for (Method method : x.getClass().getDeclaredMethods()) {
                if (method.getName().equals(NAMES[call]) && takesNumbers(method)) {
                    Object[] arguments = Arrays.copyOf(new Object[] {a, b}, method.getParameterCount());
                    return String.valueOf(method.invoke(x, arguments));
                }
            }
            return "no call " + NAMES[call] + " of " + x.getClass();
        } catch (InvocationTargetException thrown) {
            return thrown.getCause().getClass().getName();
        } catch (IllegalAccessException closed) {
            return "closed: " + NAMES[call] + " of " + x.getClass();
        }
    }

    private static boolean takesNumbers(Method method) {
        return Arrays.stream(method.getParameterTypes()).allMatch(type -> type == int.class);
    }
}
