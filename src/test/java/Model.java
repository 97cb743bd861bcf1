import java.math.BigInteger;
import java.util.ArrayList;
import java.util.Comparator;
import java.util.HashMap;
import java.util.List;
import java.util.Map;
import java.util.NoSuchElementException;

/** A second, slow reading of the document, by which RandomRunsTest judges the class: nothing is kept but choices. */
final class Model {
    private static final class Res {
        char kind;
        int a, b, from = -1, to = -1, toll;
        boolean closed;

        int delay(int load) {
            if (load == 0) return 0;
            switch (kind) {
                case 'l': return a * load + b;
                case 'q': return a * load * load + b;
                case 's': return 100 * a / load + (100 * a % load == 0 ? 0 : 1) + b;
                default: return b;
            }
        }
    }

    private static final class Who {
        int weight, mind, chosen = -1;
        boolean led;
        List<Integer> ways = new ArrayList<>();
        List<Long> regrets = new ArrayList<>();
    }

    private final List<Res> res = new ArrayList<>();
    private final List<Who> who = new ArrayList<>();
    private int z = 1;

    private static void argument(boolean good) {
        if (!good) throw new IllegalArgumentException();
    }

    private static void operation(boolean good) {
        if (!good) throw new UnsupportedOperationException();
    }

    private static void element(boolean good) {
        if (!good) throw new NoSuchElementException();
    }

    private static void room(boolean good) {
        if (!good) throw new IllegalStateException();
    }

    private Res res(int r) {
        if (r < 0 || r >= res.size()) throw new IndexOutOfBoundsException();
        return res.get(r);
    }

    private Who who(int p) {
        if (p < 0 || p >= who.size()) throw new IndexOutOfBoundsException();
        return who.get(p);
    }

    private int way(int p, int w) {
        if (w < 0 || w >= who(p).ways.size()) throw new IndexOutOfBoundsException();
        return who(p).ways.get(w);
    }

    private static boolean in(int n, int least, int most) {
        return least <= n && n <= most;
    }

    int addResource(char kind, int a, int b) {
        argument("clqs".indexOf(kind) >= 0 && in(a, 0, 20) && in(b, 0, 999));
        room(res.size() < 8);
        Res r = new Res();
        r.kind = kind;
        r.a = a;
        r.b = b;
        res.add(r);
        return res.size() - 1;
    }

    int addRoad(int from, int to, char kind, int a, int b) {
        argument(from != to && in(from, 0, 5) && in(to, 0, 5));
        int number = addResource(kind, a, b);
        res(number).from = from;
        res(number).to = to;
        return number;
    }

    int addPlayer(int weight, int mind) {
        argument(in(weight, 1, 3) && in(mind, 0, 9));
        room(who.size() < 6);
        Who p = new Who();
        p.weight = weight;
        p.mind = mind;
        who.add(p);
        return who.size() - 1;
    }

    int addWay(int player, int bits) {
        Who p = who(player);
        argument(bits > 0 && bits < Math.pow(2, res.size()));
        operation(open(bits) && !p.ways.contains(bits));
        room(p.ways.size() < 5);
        p.ways.add(bits);
        p.regrets.add(0L);
        if (p.chosen == -1) p.chosen = 0;
        return p.ways.size() - 1;
    }

    int addTraveller(int from, int to, int weight, int mind) {
        argument(from != to && in(from, 0, 5) && in(to, 0, 5) && in(weight, 1, 3) && in(mind, 0, 9));
        List<List<Integer>> paths = new ArrayList<>();
        gather(from, to, new ArrayList<>(), new ArrayList<>(List.of(from)), paths);
        element(!paths.isEmpty());
        paths.sort(Comparator.<List<Integer>>comparingInt(List::size).thenComparing(List::toString));
        int player = addPlayer(weight, mind);
        for (List<Integer> path : paths.subList(0, Math.min(5, paths.size()))) {
            int bits = 0;
            for (int r : path) bits += 1 << r;
            addWay(player, bits);
        }
        return player;
    }

    private void gather(int at, int to, List<Integer> path, List<Integer> nodes, List<List<Integer>> paths) {
        if (at == to) {
            paths.add(new ArrayList<>(path));
            return;
        }
        for (int r = res.size() - 1; r >= 0; r--) {
            Res road = res(r);
            if (road.from == at && !road.closed && !nodes.contains(road.to)) {
                path.add(r);
                nodes.add(road.to);
                gather(road.to, to, path, nodes, paths);
                nodes.remove(nodes.size() - 1);
                path.remove(path.size() - 1);
            }
        }
    }

    int countWays(int player) {
        return who(player).ways.size();
    }

    int getWay(int player, int w) {
        return way(player, w);
    }

    int choose(int player, int w) {
        operation(open(way(player, w)));
        int before = who(player).chosen;
        who(player).chosen = w;
        return before;
    }

    int getChosen(int player) {
        return who(player).chosen;
    }

    int getLoad(int resource) {
        res(resource);
        return load(now(), resource);
    }

    int getDelay(int resource, int load) {
        res(resource);
        argument(in(load, 0, 18));
        return res(resource).delay(load);
    }

    int getCost(int player) {
        who(player);
        return cost(now(), player);
    }

    int costOf(int player, int w) {
        way(player, w);
        return cost(with(now(), player, w), player);
    }

    int getTotal() {
        return total(now());
    }

    int setToll(int resource, int toll) {
        Res r = res(resource);
        argument(in(toll, 0, 9999));
        int before = r.toll;
        r.toll = toll;
        return before;
    }

    int getMargin(int resource) {
        Res r = res(resource);
        int load = getLoad(resource);
        if (load == 0) return 0;
        int margin = (load - 1) * (r.delay(load) - r.delay(load - 1));
        return margin < 0 ? 0 : margin;
    }

    int tollByMargins() {
        int sum = 0;
        for (int r = 0; r < res.size(); r++) {
            res(r).toll = Math.min(getMargin(r), 9999);
            sum += res(r).toll;
        }
        return sum;
    }

    int setMind(int player, int mind) {
        Who p = who(player);
        argument(in(mind, 0, 9));
        int before = p.mind;
        p.mind = mind;
        return before;
    }

    boolean lead(int player, boolean is) {
        Who p = who(player);
        boolean before = p.led;
        p.led = is;
        return before;
    }

    boolean close(int resource, boolean is) {
        Res r = res(resource);
        boolean before = r.closed;
        if (is) {
            operation(couldClose(resource));
            r.closed = true;
            for (Who p : who) {
                if (p.chosen >= 0 && !open(p.ways.get(p.chosen))) p.chosen = openWays(p).get(0);
            }
        } else {
            r.closed = false;
        }
        return before;
    }

    private boolean couldClose(int resource) {
        boolean before = res(resource).closed;
        res(resource).closed = true;
        boolean can = true;
        for (Who p : who) can &= p.ways.isEmpty() || !openWays(p).isEmpty();
        res(resource).closed = before;
        return can;
    }

    int bestWay(int player) {
        element(!who(player).ways.isEmpty());
        return best(player);
    }

    private int best(int player) {
        int least = Integer.MAX_VALUE;
        for (int w : openWays(who(player))) least = Math.min(least, costOf(player, w));
        if (getCost(player) == least) return who(player).chosen;
        for (int w : openWays(who(player))) if (costOf(player, w) == least) return w;
        throw new AssertionError();
    }

    private int gain(int player) {
        Who p = who(player);
        return p.led || p.ways.isEmpty() ? 0 : getCost(player) - costOf(player, best(player));
    }

    int improve(int player) {
        operation(!who(player).led && !who(player).ways.isEmpty());
        int gain = gain(player);
        who(player).chosen = best(player);
        return gain;
    }

    private List<Integer> gainers() {
        List<Integer> all = new ArrayList<>();
        for (int p = 0; p < who.size(); p++) if (gain(p) > 0) all.add(p);
        return all;
    }

    boolean isRest() {
        return gainers().isEmpty();
    }

    int greatestGain() {
        int most = 0;
        for (int p : gainers()) most = Math.max(most, gain(p));
        return most;
    }

    int run(char rule, int most) {
        argument("rgz".indexOf(rule) >= 0 && in(most, 1, 200));
        int made = 0;
        int last = -1;
        while (made < most && !isRest()) {
            List<Integer> all = gainers();
            int player = all.get(0);
            if (rule == 'r') {
                for (int p : all) {
                    if (p > last) {
                        player = p;
                        break;
                    }
                }
            } else if (rule == 'g') {
                for (int p : all) if (gain(p) > gain(player)) player = p;
            } else {
                player = all.get(draw() % all.size());
            }
            who(player).chosen = best(player);
            last = player;
            made++;
        }
        return made;
    }

    private int draw() {
        z = BigInteger.valueOf(z).multiply(BigInteger.valueOf(48271)).mod(BigInteger.valueOf(2147483647)).intValue();
        return z;
    }

    private boolean even() {
        int mind = -1;
        for (Who p : who) {
            if (p.ways.isEmpty()) continue;
            if (p.weight != 1 || mind != -1 && p.mind != mind) return false;
            mind = p.mind;
        }
        return true;
    }

    int getPotential() {
        operation(even());
        int sum = 0;
        for (int r = 0; r < res.size(); r++) {
            for (int load = 1; load <= getLoad(r); load++) sum += res(r).delay(load);
            for (Who p : who) if (uses(p, p.chosen, r)) sum += res(r).toll * p.mind;
        }
        return sum;
    }

    int countPlays() {
        int many = 1;
        for (Who p : who) if (!p.ways.isEmpty() && !p.led) many *= openWays(p).size();
        return many;
    }

    private List<int[]> plays() {
        operation(countPlays() <= 1000);
        List<int[]> plays = new ArrayList<>();
        plays.add(now());
        for (int p = 0; p < who.size(); p++) {
            if (who(p).led || who(p).ways.isEmpty()) continue;
            List<int[]> longer = new ArrayList<>();
            for (int[] play : plays) for (int w : openWays(who(p))) longer.add(with(play, p, w));
            plays = longer;
        }
        return plays;
    }

    private List<int[]> after(int[] play) {
        List<int[]> next = new ArrayList<>();
        for (int p = 0; p < who.size(); p++) {
            if (who(p).led) continue;
            for (int w : openWays(who(p))) {
                int[] other = with(play, p, w);
                if (cost(other, p) < cost(play, p)) next.add(other);
            }
        }
        return next;
    }

    private List<int[]> restPlays() {
        List<int[]> rests = new ArrayList<>();
        for (int[] play : plays()) if (after(play).isEmpty()) rests.add(play);
        return rests;
    }

    int countRests() {
        return restPlays().size();
    }

    private int[] restPlay(int index) {
        List<int[]> rests = restPlays();
        element(index >= 0 && index < rests.size());
        return rests.get(index);
    }

    int restTotal(int index) {
        return total(restPlay(index));
    }

    int goToRest(int index) {
        int[] play = restPlay(index);
        int changed = 0;
        for (int p = 0; p < who.size(); p++) {
            if (who(p).chosen != play[p]) changed++;
            who(p).chosen = play[p];
        }
        return changed;
    }

    private int least(List<int[]> plays) {
        int least = Integer.MAX_VALUE;
        for (int[] play : plays) least = Math.min(least, total(play));
        return least;
    }

    private int greatest(List<int[]> plays) {
        int greatest = 0;
        for (int[] play : plays) greatest = Math.max(greatest, total(play));
        return greatest;
    }

    int leastTotal() {
        return least(plays());
    }

    private static String name(int[] play) {
        return java.util.Arrays.toString(play);
    }

    /** Takes away plays from which nothing is left to go to, until none is left or all that are left go round. */
    private static boolean goesRound(Map<String, List<String>> graph) {
        boolean taken = true;
        while (taken && !graph.isEmpty()) {
            taken = graph.values().removeIf(next -> next.stream().noneMatch(graph::containsKey));
        }
        return !graph.isEmpty();
    }

    private List<String> namesAfter(int[] play, List<int[]> todo) {
        List<String> names = new ArrayList<>();
        for (int[] next : after(play)) {
            names.add(name(next));
            todo.add(next);
        }
        return names;
    }

    boolean hasRing() {
        Map<String, List<String>> graph = new HashMap<>();
        for (int[] play : plays()) graph.put(name(play), namesAfter(play, new ArrayList<>()));
        return goesRound(graph);
    }

    int longestRun() {
        operation(countPlays() <= 1000);
        Map<String, List<String>> graph = new HashMap<>();
        List<int[]> todo = new ArrayList<>();
        todo.add(now());
        while (!todo.isEmpty()) {
            int[] play = todo.remove(todo.size() - 1);
            if (!graph.containsKey(name(play))) graph.put(name(play), namesAfter(play, todo));
        }
        if (goesRound(new HashMap<>(graph))) throw new ArithmeticException();
        return longest(name(now()), graph, new HashMap<>());
    }

    private int longest(String play, Map<String, List<String>> graph, Map<String, Integer> known) {
        Integer seen = known.get(play);
        if (seen != null) return seen;
        int longest = 0;
        for (String next : graph.get(play)) longest = Math.max(longest, 1 + longest(next, graph, known));
        known.put(play, longest);
        return longest;
    }

    boolean isStrong() {
        int[] own = now();
        for (int[] other : plays()) {
            boolean differs = false;
            boolean all = true;
            for (int p = 0; p < who.size(); p++) {
                if (other[p] != own[p]) {
                    differs = true;
                    all &= cost(other, p) < cost(own, p);
                }
            }
            if (differs && all) return false;
        }
        return true;
    }

    int paradox() {
        List<int[]> with = restPlays();
        for (int r = 0; r < res.size(); r++) {
            if (res(r).closed || !couldClose(r) || with.isEmpty()) continue;
            int[] before = now();
            close(r, true);
            List<int[]> without = restPlays();
            boolean is = !without.isEmpty() && greatest(without) < least(with);
            close(r, false);
            for (int p = 0; p < who.size(); p++) who(p).chosen = before[p];
            if (is) return r;
        }
        throw new NoSuchElementException();
    }

    int learn(int rounds) {
        argument(in(rounds, 1, 50));
        for (int round = 0; round < rounds; round++) {
            for (int p = 0; p < who.size(); p++) {
                for (int w : openWays(who(p))) {
                    who(p).regrets.set(w, who(p).regrets.get(w) + getCost(p) - costOf(p, w));
                }
            }
            int[] next = now();
            for (int p = 0; p < who.size(); p++) if (!who(p).led) next[p] = learned(who(p));
            for (int p = 0; p < who.size(); p++) who(p).chosen = next[p];
        }
        return getTotal();
    }

    private int learned(Who p) {
        long sum = 0;
        for (int w : openWays(p)) sum += Math.max(0, p.regrets.get(w));
        if (sum == 0) return p.chosen;
        long left = draw() % sum;
        for (int w : openWays(p)) {
            left -= Math.max(0, p.regrets.get(w));
            if (left < 0) return w;
        }
        throw new AssertionError();
    }

    int getRegret(int player) {
        long greatest = 0;
        for (int w : openWays(who(player))) greatest = Math.max(greatest, who(player).regrets.get(w));
        return (int) greatest;
    }

    int setSeed(int seed) {
        argument(in(seed, 1, 2147483646));
        int before = z;
        z = seed;
        return before;
    }

    /** Tries every set of resources as those that are used, and takes the one whose level fits. */
    long getLevel(int crowd, boolean isBelow) {
        argument(in(crowd, 1, 999));
        boolean any = false;
        for (Res r : res) any |= spreads(r);
        element(any);
        for (int used = 1; used < 1 << res.size(); used++) {
            BigInteger above = BigInteger.valueOf(crowd);
            BigInteger below = BigInteger.ZERO;
            BigInteger share = BigInteger.ONE;
            for (int r = 0; r < res.size(); r++) {
                if ((used >> r & 1) == 1 && spreads(res(r))) share = share.multiply(BigInteger.valueOf(res(r).a));
            }
            above = above.multiply(share);
            boolean fits = true;
            for (int r = 0; r < res.size(); r++) {
                if ((used >> r & 1) == 0) continue;
                fits &= spreads(res(r));
                if (!fits) break;
                BigInteger part = share.divide(BigInteger.valueOf(res(r).a));
                above = above.add(part.multiply(BigInteger.valueOf(res(r).b)));
                below = below.add(part);
            }
            for (int r = 0; r < res.size() && fits; r++) {
                int side = BigInteger.valueOf(res(r).b).multiply(below).compareTo(above);
                if (spreads(res(r))) fits = (used >> r & 1) == 1 ? side < 0 : side >= 0;
            }
            if (fits) {
                BigInteger divisor = above.gcd(below);
                return (isBelow ? below : above).divide(divisor).longValueExact();
            }
        }
        throw new AssertionError();
    }

    private static boolean spreads(Res r) {
        return r.kind == 'l' && r.a > 0 && !r.closed;
    }

    float costOfDisorder() {
        List<int[]> rests = restPlays();
        if (rests.isEmpty() || leastTotal() == 0) throw new ArithmeticException();
        return (float) greatest(rests) / (float) leastTotal();
    }

    double bestCase() {
        List<int[]> rests = restPlays();
        if (rests.isEmpty() || leastTotal() == 0) throw new ArithmeticException();
        return (double) least(rests) / (double) leastTotal();
    }

    long checksum() {
        long sum = 7;
        for (int p = 0; p < who.size(); p++) sum = (sum * 31 + who(p).chosen) * 31 + getCost(p);
        for (int r = 0; r < res.size(); r++) sum = (sum * 31 + getLoad(r)) * 31 + res(r).toll;
        return sum * 31 + z;
    }

    boolean isSound() {
        if (countPlays() > 1000 || !even()) return true;
        return countRests() > 0 && !hasRing();
    }

    private boolean open(int bits) {
        for (int r = 0; r < res.size(); r++) if ((bits >> r & 1) == 1 && res(r).closed) return false;
        return true;
    }

    private List<Integer> openWays(Who p) {
        List<Integer> all = new ArrayList<>();
        for (int w = 0; w < p.ways.size(); w++) if (open(p.ways.get(w))) all.add(w);
        return all;
    }

    private int[] now() {
        int[] play = new int[who.size()];
        for (int p = 0; p < play.length; p++) play[p] = who(p).chosen;
        return play;
    }

    private static int[] with(int[] play, int player, int w) {
        int[] other = play.clone();
        other[player] = w;
        return other;
    }

    private static boolean uses(Who p, int w, int r) {
        return w >= 0 && (p.ways.get(w) >> r & 1) == 1;
    }

    private int load(int[] play, int r) {
        int load = 0;
        for (int p = 0; p < play.length; p++) if (uses(who(p), play[p], r)) load += who(p).weight;
        return load;
    }

    private int cost(int[] play, int player) {
        int sum = 0;
        for (int r = 0; r < res.size(); r++) {
            if (uses(who(player), play[player], r)) {
                sum += res(r).delay(load(play, r)) + res(r).toll * who(player).mind;
            }
        }
        return sum;
    }

    private int total(int[] play) {
        int sum = 0;
        for (int p = 0; p < play.length; p++) {
            for (int r = 0; r < res.size(); r++) {
                if (uses(who(p), play[p], r)) sum += who(p).weight * res(r).delay(load(play, r));
            }
        }
        return sum;
    }
}
