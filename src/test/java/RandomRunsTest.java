import java.lang.reflect.InvocationTargetException;
import java.lang.reflect.Method;
import java.util.Arrays;
import java.util.HashMap;
import java.util.Map;
import java.util.Random;

/** Runs of random calls, always the same ones, each answered by the class and by the Model. */
public final class RandomRunsTest {
    private static final int RUNS = 4000;
    private static final int CALLS = 90;

    /** Each call with the kinds of its arguments, as argument() reads them. */
    private static final String[] BUILDING = {
        "addResource kab", "addRoad nnkab", "addRoad nnkab", "addPlayer wm", "addWay pr", "addWay pr", "addWay pr",
        "addWay pr", "addTraveller nnwm",
    };
    private static final String[] USING = {
        "addResource kab", "addRoad nnkab", "addPlayer wm", "addWay pr", "addWay pr", "addTraveller nnwm",
        "countWays p", "getWay pv", "choose pv", "choose pv", "choose pv", "getChosen p", "getLoad x", "getDelay xl",
        "getCost p", "costOf pv", "getTotal ", "setToll xt", "setToll xt", "getMargin x", "tollByMargins ",
        "setMind pm", "lead pi", "lead pi", "close xi", "close xi", "close xi", "bestWay p", "improve p", "isRest ",
        "greatestGain ", "run ug", "run ug", "getPotential ", "countPlays ", "countRests ", "restTotal j",
        "goToRest j", "leastTotal ", "hasRing ", "longestRun ", "isStrong ", "paradox ", "paradox ", "learn q",
        "learn q", "getRegret p", "setSeed z", "getLevel ci", "costOfDisorder ", "bestCase ", "checksum ", "isSound ",
    };

    private final Random random;
    private final boolean isEven;
    private final int spread;
    private final SelfishJunction due = new SelfishJunction();
    private final Model model = new Model();
    private final StringBuilder story = new StringBuilder();

    private RandomRunsTest(int run) {
        random = new Random(run);
        isEven = run % 3 == 0;
        spread = run % 4 == 0 ? 1 : run % 4 == 1 ? 20 : 4;
    }

    public static void main(String[] args) throws Exception {
        Map<String, Method> ours = methods(SelfishJunction.class);
        Map<String, Method> theirs = methods(Model.class);
        Map<String, Integer> seen = new HashMap<>();
        int failed = 0;
        for (int run = 0; run < RUNS && failed < 5; run++) {
            if (!new RandomRunsTest(run).goesWell(ours, theirs, seen)) failed++;
        }
        for (String call : USING) {
            String name = call.substring(0, call.indexOf(' '));
            if (!seen.containsKey(name)) {
                System.out.println("never answered: " + name);
                failed++;
            }
        }
        if (args.length > 0) seen.forEach((what, many) -> System.out.println(many + " " + what));
        System.out.println(RUNS - failed + " passed, " + failed + " failed");
        if (failed > 0) System.exit(1);
    }

    private static Map<String, Method> methods(Class<?> from) {
        Map<String, Method> all = new HashMap<>();
        for (Method method : from.getDeclaredMethods()) all.put(method.getName(), method);
        return all;
    }

    private boolean goesWell(Map<String, Method> ours, Map<String, Method> theirs, Map<String, Integer> seen)
            throws Exception {
        int building = 8 + random.nextInt(18);
        for (int call = 0; call < CALLS; call++) {
            String[] table = call < building ? BUILDING : USING;
            String[] form = table[random.nextInt(table.length)].split(" ", -1);
            Object[] arguments = new Object[form[1].length()];
            for (int i = 0; i < arguments.length; i++) arguments[i] = argument(form[1].charAt(i));
            Object got = answer(ours.get(form[0]), due, arguments);
            Object want = answer(theirs.get(form[0]), model, arguments);
            story.append(form[0]).append(Arrays.toString(arguments)).append(' ').append(got).append('\n');
            boolean told = want.toString().startsWith("throws") || form[0].startsWith("is") || form[0].startsWith("has");
            seen.merge(form[0] + (told ? " " + want : ""), 1, Integer::sum);
            seen.merge(form[0], want.toString().startsWith("throws") ? 0 : 1, Integer::sum);
            if (!got.equals(want) || !state(ours, due).equals(state(theirs, model))) {
                System.out.println(story + "due is " + want + "\n" + state(ours, due) + "\n" + state(theirs, model));
                return false;
            }
        }
        return true;
    }

    private static Object answer(Method method, Object of, Object... arguments) throws Exception {
        try {
            return method.invoke(of, arguments);
        } catch (InvocationTargetException e) {
            String message = String.valueOf(e.getCause().getMessage());
            return "throws " + e.getCause().getClass().getName() + (message.contains("/ by zero") ? message : "");
        }
    }

    private static String state(Map<String, Method> methods, Object of) throws Exception {
        StringBuilder state = new StringBuilder();
        for (String name : new String[] {"checksum", "getTotal", "countPlays"}) {
            state.append(answer(methods.get(name), of)).append(' ');
        }
        for (int p = 0; p < 6; p++) {
            state.append(answer(methods.get("countWays"), of, p)).append(' ');
            state.append(answer(methods.get("getRegret"), of, p)).append(' ');
        }
        return state.toString();
    }

    private Object argument(char kind) {
        boolean wild = random.nextInt(40) == 0;
        switch (kind) {
            case 'k': return wild ? (char) random.nextInt(256) : "clqs".charAt(random.nextInt(4));
            case 'a': return number(wild, 0, 20);
            case 'b': return spread == 1 ? number(wild, 0, 999) : number(wild, 0, 2 * spread) * spread / 2;
            case 'n': return number(wild, 0, 5) % (spread == 20 ? 6 : 4);
            case 'w': return isEven ? 1 : number(wild, 1, 3);
            case 'm': return isEven ? 2 : number(wild, 0, 9);
            case 'p': return wild ? random.nextInt(9) - 1 : random.nextInt(4);
            case 'r': return wild ? random.nextInt(700) - 100 : 1 + random.nextInt(random.nextBoolean() ? 15 : 63);
            case 'v': return wild ? random.nextInt(8) - 1 : random.nextInt(3);
            case 'x': return wild ? random.nextInt(11) - 1 : random.nextInt(5);
            case 'l': return number(wild, 0, 18);
            case 't': return random.nextInt(4) == 0 ? number(wild, 0, 9999) : random.nextInt(30);
            case 'i': return random.nextInt(3) == 0;
            case 'u': return wild ? (char) random.nextInt(256) : "rgz".charAt(random.nextInt(3));
            case 'g': return random.nextBoolean() ? number(wild, 1, 200) : 1 + random.nextInt(3);
            case 'j': return random.nextInt(4) - (wild ? 2 : 0);
            case 'q': return random.nextBoolean() ? number(wild, 1, 50) : 1 + random.nextInt(3);
            case 'z': return random.nextInt(10) == 0 ? random.nextInt() : number(wild, 1, 2147483646);
            case 'c': return number(wild, 1, 999);
            default: throw new AssertionError(kind);
        }
    }

    /** A number in a range, or a wild one at its edges or just outside. */
    private int number(boolean wild, int least, int most) {
        if (!wild) return least + random.nextInt(most - least + 1);
        int[] edges = {least - 1, least, most, most + 1};
        return edges[random.nextInt(4)];
    }
}
