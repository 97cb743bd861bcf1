import java.lang.reflect.InvocationTargetException;
import java.lang.reflect.Method;
import java.util.ArrayList;
import java.util.Arrays;
import java.util.HashMap;
import java.util.List;
import java.util.Map;
import java.util.Random;

/** Runs of random calls, always the same ones, each answered by the class and by the Model. */
public final class RandomRunsTest {
    private static final int RUNS = 4000;
    private static final int CALLS = 90;

    /** Junctions with rings, which come too seldom by chance: resources, then players with their ways. */
    private static final String[] RINGS = {
        "q 8 15,l 18 10,q 19 21,s 4 35;3 4 10,1 2 7 8",
        "c 10 35,c 4 23,q 11 7,s 4 28;2 11 5,2 7 6,1 7 8",
        "s 2 20,c 18 34,q 4 2;1 6 1 5,2 3 6,3 3 4 5",
        "q 18 44,s 11 12,s 6 20,q 8 37;3 8 10 13,2 6 1,1 5 2 4",
        "s 4 11,s 13 25,s 20 1,q 20 28;3 14 8 3,3 9 3 7,1 6 13 1",
    };

    /** Each call with the kinds of its arguments, as argument() reads them. */
    private static final String[] USING = {
        "addResource kab", "addRoad nnkab", "addPlayer wm", "addWay pr", "addWay pr", "addTraveller nnwm",
        "countWays p", "getWay pv", "choose pv", "choose pv", "choose pv", "getChosen p", "getLoad x", "getDelay xl",
        "getCost p", "costOf pv", "getTotal ", "setToll xt", "setToll xt", "getMargin x", "tollByMargins ",
        "setMind pm", "lead pi", "lead pi", "close xi", "close xi", "close xi", "bestWay p", "improve p", "isRest ",
        "greatestGain ", "run ug", "run ug", "getPotential ", "countPlays ", "countRests ", "restTotal j",
        "goToRest j", "leastTotal ", "hasRing ", "longestRun ", "isStrong ", "paradox ", "paradox ", "learn q",
        "learn q", "getRegret p", "setSeed z", "getLevel ci", "costOfDisorder ", "bestCase ", "checksum ", "isSound ",
    };

    private final Random random;
    private final boolean isRing;
    private final boolean isEven;
    private final boolean hasRoads;
    private final int mostB;
    private final int mostWays;
    private final int resources;
    private final int players;
    private final SelfishJunction due = new SelfishJunction();
    private final Model model = new Model();
    private final StringBuilder story = new StringBuilder();

    private RandomRunsTest(int run) {
        random = new Random(run);
        isRing = run % 5 == 0;
        isEven = run % 5 == 1;
        hasRoads = run % 3 == 0;
        mostB = random.nextInt(4) == 0 ? 999 : random.nextInt(100);
        mostWays = isRing ? 3 : 2 + random.nextInt(4);
        resources = isRing ? 4 : random.nextInt(10) == 0 ? random.nextInt(10) : 2 + random.nextInt(7);
        players = isRing ? 3 : random.nextInt(10) == 0 ? random.nextInt(8) : 1 + random.nextInt(mostWays < 4 ? 6 : 4);
    }

    public static void main(String[] args) throws Exception {
        Map<String, Method> ours = methods(SelfishJunction.class);
        Map<String, Method> theirs = methods(Model.class);
        Map<String, Integer> seen = new HashMap<>();
        int failed = 0;
        for (int run = 0; run < RUNS && failed < 5; run++) {
            if (!new RandomRunsTest(run).goesWell(ours, theirs, seen)) failed++;
        }
        for (String call : USING) {
            String name = call.substring(0, call.indexOf(' '));
            if (!seen.containsKey(name)) {
                System.out.println("never answered: " + name);
                failed++;
            }
        }
        if (args.length > 0) seen.forEach((what, many) -> System.out.println(many + " " + what));
        System.out.println(RUNS - failed + " passed, " + failed + " failed");
        if (failed > 0) System.exit(1);
    }

    private static Map<String, Method> methods(Class<?> from) {
        Map<String, Method> all = new HashMap<>();
        for (Method method : from.getDeclaredMethods()) all.put(method.getName(), method);
        return all;
    }

    private boolean goesWell(Map<String, Method> ours, Map<String, Method> theirs, Map<String, Integer> seen)
            throws Exception {
        for (Call call : calls()) {
            Object got = answer(ours.get(call.name), due, call.arguments);
            Object want = answer(theirs.get(call.name), model, call.arguments);
            story.append(call.name).append(Arrays.toString(call.arguments)).append(' ').append(got).append('\n');
            note(seen, call.name, want);
            if (!got.equals(want) || !state(ours, due).equals(state(theirs, model))) {
                System.out.println(story + "due is " + want + "\n" + state(ours, due) + "\n" + state(theirs, model));
                return false;
            }
        }
        return true;
    }

    private record Call(String name, Object... arguments) { }

    private List<Call> calls() {
        List<Call> calls = new ArrayList<>();
        if (isRing) {
            buildRing(RINGS[random.nextInt(RINGS.length)].split(";"), calls);
        } else {
            build(calls);
        }
        for (int i = 0; i < CALLS; i++) calls.add(randomCall(USING[random.nextInt(USING.length)]));
        return calls;
    }

    private void build(List<Call> calls) {
        for (int r = 0; r < resources; r++) calls.add(randomCall(hasRoads ? "addRoad nnkab" : "addResource kab"));
        for (int p = 0; p < players; p++) calls.add(randomCall(hasRoads ? "addTraveller nnwm" : "addPlayer wm"));
        for (int way = 0; way < players * mostWays && !hasRoads; way++) calls.add(randomCall("addWay pr"));
    }

    private static void buildRing(String[] parts, List<Call> calls) {
        for (String resource : parts[0].split(",")) {
            String[] is = resource.split(" ");
            calls.add(new Call("addResource", is[0].charAt(0), Integer.parseInt(is[1]), Integer.parseInt(is[2])));
        }
        int player = 0;
        for (String one : parts[1].split(",")) {
            String[] is = one.split(" ");
            calls.add(new Call("addPlayer", Integer.parseInt(is[0]), 0));
            for (int way = 1; way < is.length; way++) calls.add(new Call("addWay", player, Integer.parseInt(is[way])));
            player++;
        }
    }

    private Call randomCall(String form) {
        String[] is = form.split(" ", -1);
        Object[] arguments = new Object[is[1].length()];
        for (int i = 0; i < arguments.length; i++) arguments[i] = argument(is[1].charAt(i));
        return new Call(is[0], arguments);
    }

    /** Counts what was answered: exceptions and booleans each by itself, all else together. */
    private static void note(Map<String, Integer> seen, String call, Object want) {
        boolean isThrown = want.toString().startsWith("throws");
        if (isThrown || want instanceof Boolean) seen.merge(call + " " + want, 1, Integer::sum);
        if (!isThrown) seen.merge(call, 1, Integer::sum);
    }

    private static Object answer(Method method, Object of, Object... arguments) throws Exception {
        try {
            return method.invoke(of, arguments);
        } catch (InvocationTargetException e) {
            String message = String.valueOf(e.getCause().getMessage());
            return "throws " + e.getCause().getClass().getName() + (message.contains("/ by zero") ? message : "");
        }
    }

    private static String state(Map<String, Method> methods, Object of) throws Exception {
        StringBuilder state = new StringBuilder();
        for (String name : new String[] {"checksum", "getTotal", "countPlays"}) {
            state.append(answer(methods.get(name), of)).append(' ');
        }
        for (int p = 0; p < 6; p++) {
            state.append(answer(methods.get("countWays"), of, p)).append(' ');
            state.append(answer(methods.get("getRegret"), of, p)).append(' ');
        }
        return state.toString();
    }

    private Object argument(char kind) {
        boolean wild = random.nextInt(50) == 0;
        switch (kind) {
            case 'k': return wild ? (char) random.nextInt(256) : "clqs".charAt(random.nextInt(4));
            case 'a': return number(wild, 0, 20);
            case 'b': return wild ? number(wild, 0, 999) : random.nextInt(mostB + 1);
            case 'n': return number(wild, 0, 5) % (resources > 6 ? 4 : 3);
            case 'w': return isEven ? 1 : number(wild, 1, 3);
            case 'm': return isEven ? 2 : number(wild, 0, 9);
            case 'p': return number(wild, 0, Math.max(0, players - 1));
            case 'r': return wild ? random.nextInt(700) - 100 : 1 + random.nextInt((1 << Math.max(1, resources)) - 1);
            case 'v': return number(wild, 0, mostWays - 1);
            case 'x': return number(wild, 0, Math.max(0, resources - 1));
            case 'l': return number(wild, 0, 18);
            case 't': return random.nextInt(4) == 0 ? number(wild, 0, 9999) : random.nextInt(30);
            case 'i': return random.nextInt(4) == 0;
            case 'u': return wild ? (char) random.nextInt(256) : "rgz".charAt(random.nextInt(3));
            case 'g': return random.nextBoolean() ? number(wild, 1, 200) : 1 + random.nextInt(3);
            case 'j': return random.nextInt(4) - (wild ? 2 : 0);
            case 'q': return random.nextBoolean() ? number(wild, 1, 50) : 1 + random.nextInt(3);
            case 'z': return random.nextInt(10) == 0 ? random.nextInt() : number(wild, 1, 2147483646);
            case 'c': return number(wild, 1, 999);
            default: throw new AssertionError(kind);
        }
    }

    /** A number in a range, or a wild one at its edges or just outside. */
    private int number(boolean wild, int least, int most) {
        if (!wild) return least + random.nextInt(most - least + 1);
        int[] edges = {least - 1, least, most, most + 1};
        return edges[random.nextInt(4)];
    }
}
