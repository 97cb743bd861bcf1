import java.util.NoSuchElementException;

public final class SelfishJunction {
    private static final int MOST_RESOURCES = 8;
    private static final int MOST_PLAYERS = 6;
    private static final int MOST_WAYS = 5;
    private static final int MOST_NODES = 6;
    private static final int MOST_A = 20;
    private static final int MOST_B = 999;
    private static final int MOST_WEIGHT = 3;
    private static final int MOST_MIND = 9;
    private static final int MOST_LOAD = 18;
    private static final int MOST_TOLL = 9999;
    private static final int MOST_CHANGES = 200;
    private static final int MOST_PLAYS = 1000;
    private static final int MOST_ROUNDS = 50;
    private static final int MOST_CROWD = 999;
    private static final long MOST_REGRET = 2147483647L;
    private static final long SEED_FACTOR = 48271L;
    private static final long SEED_MODULUS = 2147483647L;

    private final Board board;
    private final Play now;
    private final Play aside;
    private final Survey survey;
    private final Paths paths;
    private final Level level;
    private int z;

    public SelfishJunction() {
        board = new Board();
        now = new Play();
        aside = new Play();
        survey = new Survey();
        paths = new Paths();
        level = new Level();
        z = 1;
    }

    public int addResource(char kind, int a, int b) throws IllegalArgumentException, IllegalStateException {
        checkNumbers(kind, a, b);
        checkRoomForResource();
        return board.putResource(kind, a, b);
    }

    public int addRoad(int from, int to, char kind, int a, int b)
            throws IllegalArgumentException, IllegalStateException {
        checkNodes(from, to);
        checkNumbers(kind, a, b);
        checkRoomForResource();
        int number = board.putResource(kind, a, b);
        board.resources[number].from = from;
        board.resources[number].to = to;
        return number;
    }

    public int addPlayer(int weight, int mind) throws IllegalArgumentException, IllegalStateException {
        checkBody(weight, mind);
        checkRoomForPlayer();
        return board.putPlayer(weight, mind);
    }

    public int addWay(int player, int resources)
            throws IndexOutOfBoundsException, IllegalArgumentException, UnsupportedOperationException,
            IllegalStateException {
        checkPlayer(player);
        if (resources < 1 || resources >= 1 << board.resourceCount) {
            throw new IllegalArgumentException("no resources, or one that does not exist");
        }
        if ((resources & now.closed) != 0 || board.players[player].owns(resources)) {
            throw new UnsupportedOperationException("closed, or a way that the player has");
        }
        if (board.players[player].wayCount >= MOST_WAYS) {
            throw new IllegalStateException("the player has all its ways");
        }
        return board.putWay(now, player, resources);
    }

    public int addTraveller(int from, int to, int weight, int mind)
            throws IllegalArgumentException, NoSuchElementException, IllegalStateException {
        checkNodes(from, to);
        checkBody(weight, mind);
        paths.search(board, now.closed, from, to);
        if (paths.found == 0) {
            throw new NoSuchElementException("no path");
        }
        checkRoomForPlayer();
        int player = board.putPlayer(weight, mind);
        for (int way = 0; way < paths.found; way++) {
            board.putWay(now, player, paths.ways[way]);
        }
        return player;
    }

    public int countWays(int player) throws IndexOutOfBoundsException {
        checkPlayer(player);
        return board.players[player].wayCount;
    }

    public int getWay(int player, int way) throws IndexOutOfBoundsException {
        checkWay(player, way);
        return board.players[player].bitsOf(way);
    }

    public int choose(int player, int way) throws IndexOutOfBoundsException, UnsupportedOperationException {
        checkWay(player, way);
        if (!board.isOpen(now, player, way)) {
            throw new UnsupportedOperationException("the way is not open");
        }
        int before = now.chosen[player];
        board.take(now, player, way);
        return before;
    }

    public int getChosen(int player) throws IndexOutOfBoundsException {
        checkPlayer(player);
        return now.chosen[player];
    }

    public int getLoad(int resource) throws IndexOutOfBoundsException {
        checkResource(resource);
        return now.loads[resource];
    }

    public int getDelay(int resource, int load) throws IndexOutOfBoundsException, IllegalArgumentException {
        checkResource(resource);
        checkRange(load, 0, MOST_LOAD);
        return board.resources[resource].delayBy(load);
    }

    public int getCost(int player) throws IndexOutOfBoundsException {
        checkPlayer(player);
        return board.ownCost(now, player);
    }

    public int costOf(int player, int way) throws IndexOutOfBoundsException {
        checkWay(player, way);
        return board.costAlone(now, player, way);
    }

    public int getTotal() {
        return board.totalOf(now);
    }

    public int setToll(int resource, int toll) throws IndexOutOfBoundsException, IllegalArgumentException {
        checkResource(resource);
        checkRange(toll, 0, MOST_TOLL);
        int before = board.resources[resource].toll;
        board.resources[resource].toll = toll;
        return before;
    }

    public int getMargin(int resource) throws IndexOutOfBoundsException {
        checkResource(resource);
        return board.resources[resource].marginBy(now.loads[resource]);
    }

    public int tollByMargins() {
        int sum = 0;
        for (int r = 0; r < board.resourceCount; r++) {
            int toll = Math.min(MOST_TOLL, board.resources[r].marginBy(now.loads[r]));
            board.resources[r].toll = toll;
            sum += toll;
        }
        return sum;
    }

    public int setMind(int player, int mind) throws IndexOutOfBoundsException, IllegalArgumentException {
        checkPlayer(player);
        checkRange(mind, 0, MOST_MIND);
        int before = board.players[player].mind;
        board.players[player].mind = mind;
        return before;
    }

    public boolean lead(int player, boolean is) throws IndexOutOfBoundsException {
        checkPlayer(player);
        boolean before = board.players[player].led;
        board.players[player].led = is;
        return before;
    }

    public boolean close(int resource, boolean is) throws IndexOutOfBoundsException, UnsupportedOperationException {
        checkResource(resource);
        boolean before = now.isClosed(resource);
        if (!is) {
            now.closed &= ~(1 << resource);
            return before;
        }
        if (!board.canShut(now, resource)) {
            throw new UnsupportedOperationException("a player would keep no way");
        }
        board.shut(now, resource);
        return before;
    }

    public int bestWay(int player) throws IndexOutOfBoundsException, NoSuchElementException {
        checkPlayer(player);
        if (now.chosen[player] < 0) {
            throw new NoSuchElementException("the player has no way");
        }
        return board.bestOf(now, player);
    }

    public int improve(int player) throws IndexOutOfBoundsException, UnsupportedOperationException {
        checkPlayer(player);
        if (!board.isAsked(now, player)) {
            throw new UnsupportedOperationException("the player is led, or has no way");
        }
        int gain = board.gainOf(now, player);
        board.take(now, player, board.bestOf(now, player));
        return gain;
    }

    public boolean isRest() {
        return board.firstToGain(now, 0) < 0;
    }

    public int greatestGain() {
        int player = board.mostToGain(now);
        return player < 0 ? 0 : board.gainOf(now, player);
    }

    public int run(char rule, int most) throws IllegalArgumentException {
        if (rule != 'r' && rule != 'g' && rule != 'z') {
            throw new IllegalArgumentException("no such rule");
        }
        checkRange(most, 1, MOST_CHANGES);
        int last = -1;
        for (int made = 0; made < most; made++) {
            last = nextToChange(rule, last);
            if (last < 0) {
                return made;
            }
            board.take(now, last, board.bestOf(now, last));
        }
        return most;
    }

    public int getPotential() throws UnsupportedOperationException {
        if (!board.isEven(now)) {
            throw new UnsupportedOperationException("weights or minds differ");
        }
        return board.potentialOf(now);
    }

    public int countPlays() {
        survey.number(board, now);
        return survey.count;
    }

    public int countRests() throws UnsupportedOperationException {
        lookAtPlays();
        return survey.countAtRest();
    }

    public int restTotal(int index) throws UnsupportedOperationException, NoSuchElementException {
        return survey.totals[findRest(index)];
    }

    public int goToRest(int index) throws UnsupportedOperationException, NoSuchElementException {
        survey.show(board, findRest(index));
        int changed = 0;
        for (int p = 0; p < board.playerCount; p++) {
            if (now.chosen[p] != survey.shown.chosen[p]) {
                board.take(now, p, survey.shown.chosen[p]);
                changed++;
            }
        }
        return changed;
    }

    public int leastTotal() throws UnsupportedOperationException {
        lookAtPlays();
        return survey.leastOf(false);
    }

    public boolean hasRing() throws UnsupportedOperationException {
        lookAtPlays();
        return survey.anyRing();
    }

    public int longestRun() throws UnsupportedOperationException, ArithmeticException {
        lookAtPlays();
        int length = survey.longestFrom(survey.indexOf(board, now));
        if (length < 0) {
            throw new ArithmeticException("a ring can be come to");
        }
        return length;
    }

    public boolean isStrong() throws UnsupportedOperationException {
        numberPlays();
        int own = survey.indexOf(board, now);
        for (int play = 0; play < survey.count; play++) {
            if (play != own) {
                survey.show(board, play);
                if (board.allChangedPayLess(now, survey.shown)) {
                    return false;
                }
            }
        }
        return true;
    }

    public int paradox() throws UnsupportedOperationException, NoSuchElementException {
        lookAtPlays();
        int found = lowestParadox(survey.leastOf(true));
        if (found < 0) {
            throw new NoSuchElementException("no paradox");
        }
        return found;
    }

    public int learn(int rounds) throws IllegalArgumentException {
        checkRange(rounds, 1, MOST_ROUNDS);
        for (int round = 0; round < rounds; round++) {
            learnOnce();
        }
        return board.totalOf(now);
    }

    public int getRegret(int player) throws IndexOutOfBoundsException {
        checkPlayer(player);
        return (int) Math.min(MOST_REGRET, board.greatestRegret(now, player));
    }

    public int setSeed(int z) throws IllegalArgumentException {
        checkRange(z, 1, (int) SEED_MODULUS - 1);
        int before = this.z;
        this.z = z;
        return before;
    }

    public long getLevel(int crowd, boolean isBelow) throws IllegalArgumentException, NoSuchElementException {
        checkRange(crowd, 1, MOST_CROWD);
        if (!level.spread(board, now.closed, crowd)) {
            throw new NoSuchElementException("no open resource whose delay grows evenly");
        }
        return isBelow ? level.below : level.above;
    }

    public float costOfDisorder() throws UnsupportedOperationException, ArithmeticException {
        lookAtPlays();
        checkQuotient();
        return (float) survey.greatestRest() / (float) survey.leastOf(false);
    }

    public double bestCase() throws UnsupportedOperationException, ArithmeticException {
        lookAtPlays();
        checkQuotient();
        return (double) survey.leastOf(true) / (double) survey.leastOf(false);
    }

    public long checksum() {
        long sum = 7L;
        for (int p = 0; p < board.playerCount; p++) {
            sum = 31L * sum + now.chosen[p];
            sum = 31L * sum + board.ownCost(now, p);
        }
        for (int r = 0; r < board.resourceCount; r++) {
            sum = 31L * sum + now.loads[r];
            sum = 31L * sum + board.resources[r].toll;
        }
        return 31L * sum + z;
    }

    public boolean isSound() {
        if (!board.isBalanced(now)) {
            return false;
        }
        if (!board.isEven(now)) {
            return true;
        }
        survey.number(board, now);
        if (survey.count > MOST_PLAYS) {
            return true;
        }
        survey.fill(board);
        return survey.countAtRest() > 0 && !survey.anyRing();
    }

    private void checkRange(int number, int least, int most) throws IllegalArgumentException {
        if (number < least || number > most) {
            throw new IllegalArgumentException("a number is out of range");
        }
    }

    private void checkNumbers(char kind, int a, int b) throws IllegalArgumentException {
        if (kind != 'c' && kind != 'l' && kind != 'q' && kind != 's') {
            throw new IllegalArgumentException("no such kind");
        }
        checkRange(a, 0, MOST_A);
        checkRange(b, 0, MOST_B);
    }

    private void checkNodes(int from, int to) throws IllegalArgumentException {
        checkRange(from, 0, MOST_NODES - 1);
        checkRange(to, 0, MOST_NODES - 1);
        if (from == to) {
            throw new IllegalArgumentException("both nodes are the same");
        }
    }

    private void checkBody(int weight, int mind) throws IllegalArgumentException {
        checkRange(weight, 1, MOST_WEIGHT);
        checkRange(mind, 0, MOST_MIND);
    }

    private void checkRoomForResource() throws IllegalStateException {
        if (board.resourceCount >= MOST_RESOURCES) {
            throw new IllegalStateException("there are all the resources");
        }
    }

    private void checkRoomForPlayer() throws IllegalStateException {
        if (board.playerCount >= MOST_PLAYERS) {
            throw new IllegalStateException("there are all the players");
        }
    }

    private void checkResource(int resource) throws IndexOutOfBoundsException {
        if (resource < 0 || resource >= board.resourceCount) {
            throw new IndexOutOfBoundsException("no such resource");
        }
    }

    private void checkPlayer(int player) throws IndexOutOfBoundsException {
        if (player < 0 || player >= board.playerCount) {
            throw new IndexOutOfBoundsException("no such player");
        }
    }

    private void checkWay(int player, int way) throws IndexOutOfBoundsException {
        checkPlayer(player);
        if (way < 0 || way >= board.players[player].wayCount) {
            throw new IndexOutOfBoundsException("no such way");
        }
    }

    private void checkQuotient() throws ArithmeticException {
        if (survey.countAtRest() == 0 || survey.leastOf(false) <= 0) {
            throw new ArithmeticException("no play at rest, or a least total of 0");
        }
    }

    private void numberPlays() throws UnsupportedOperationException {
        survey.number(board, now);
        if (survey.count > MOST_PLAYS) {
            throw new UnsupportedOperationException("more than 1000 plays");
        }
    }

    private void lookAtPlays() throws UnsupportedOperationException {
        numberPlays();
        survey.fill(board);
    }

    private int findRest(int index) throws UnsupportedOperationException, NoSuchElementException {
        lookAtPlays();
        int play = survey.restAt(index);
        if (play < 0) {
            throw new NoSuchElementException("no such play at rest");
        }
        return play;
    }

    private int draw() {
        z = (int) (z * SEED_FACTOR % SEED_MODULUS);
        return z;
    }

    /** The player whose change is next in a run, -1 at rest. */
    private int nextToChange(char rule, int last) {
        if (rule == 'g') {
            return board.mostToGain(now);
        }
        if (rule == 'r') {
            return board.firstToGain(now, last + 1);
        }
        int many = board.countGainers(now);
        return many < 1 ? -1 : board.gainerAt(now, draw() % many);
    }

    /** The lowest resource whose closing brings every total at rest below the one told, -1 if there is none. */
    private int lowestParadox(int leastWith) {
        for (int r = 0; r < board.resourceCount && leastWith >= 0; r++) {
            if (!now.isClosed(r) && board.canShut(now, r)) {
                aside.copyFrom(now);
                board.shut(aside, r);
                survey.number(board, aside);
                survey.fill(board);
                int greatestWithout = survey.greatestRest();
                if (greatestWithout >= 0 && greatestWithout < leastWith) {
                    return r;
                }
            }
        }
        return -1;
    }

    /** All regrets grow before anybody goes, since all are told by the costs at the beginning of the round. */
    private void learnOnce() {
        for (int p = 0; p < board.playerCount; p++) {
            board.growRegrets(now, p);
        }
        for (int p = 0; p < board.playerCount; p++) {
            long sum = board.players[p].led ? 0L : board.sumOfRegrets(now, p, MOST_WAYS);
            if (sum > 0L) {
                board.take(now, p, board.wayByRegret(now, p, draw() % sum));
            }
        }
    }

    private static boolean hasBit(int bits, int place) {
        return (bits >> place & 1) != 0;
    }

    private static final class Resource {
        int a;
        int b;
        char kind;
        int from;
        int to;
        int toll;
        final int[] delays;

        Resource() {
            kind = 'c';
            from = -1;
            to = -1;
            delays = new int[MOST_LOAD + 1];
        }

        void fillDelays() {
            for (int load = 1; load <= MOST_LOAD; load++) {
                delays[load] = b + grown(load);
            }
        }

        private int grown(int load) {
            if (kind == 'l') {
                return a * load;
            }
            if (kind == 'q') {
                return a * load * load;
            }
            if (kind == 's' && load > 0) {
                return (100 * a + load - 1) / load;
            }
            return 0;
        }

        int delayBy(int load) {
            return load < 0 || load > MOST_LOAD ? 0 : delays[load];
        }

        int marginBy(int load) {
            return load < 1 ? 0 : Math.max(0, (load - 1) * (delayBy(load) - delayBy(load - 1)));
        }

        int delaysUpTo(int load) {
            int sum = 0;
            for (int one = 1; one <= load; one++) {
                sum += delayBy(one);
            }
            return sum;
        }

        boolean growsEvenly() {
            return kind == 'l' && a > 0;
        }
    }

    private static final class Player {
        int weight;
        int mind;
        boolean led;
        int wayCount;
        final int[] ways;
        final long[] regrets;

        Player() {
            weight = 1;
            ways = new int[MOST_WAYS];
            regrets = new long[MOST_WAYS];
        }

        /** The resources of a way, none for the way -1 of a player without ways. */
        int bitsOf(int way) {
            return way < 0 || way >= wayCount ? 0 : ways[way];
        }

        boolean owns(int resources) {
            for (int way = 0; way < wayCount; way++) {
                if (ways[way] == resources) {
                    return true;
                }
            }
            return false;
        }

        /** The lowest way without the closed resources, -1 if there is none. */
        int lowestWithout(int closed) {
            for (int way = 0; way < wayCount; way++) {
                if ((ways[way] & closed) == 0) {
                    return way;
                }
            }
            return -1;
        }
    }

    /** Who has chosen what while which resources are closed: the play of now, or one that is only thought of. */
    private static final class Play {
        final int[] chosen;
        final int[] loads;
        int closed;

        Play() {
            chosen = new int[MOST_PLAYERS];
            loads = new int[MOST_RESOURCES];
            for (int p = 0; p < MOST_PLAYERS; p++) {
                chosen[p] = -1;
            }
        }

        boolean isClosed(int resource) {
            return hasBit(closed, resource);
        }

        void copyFrom(Play other) {
            for (int p = 0; p < MOST_PLAYERS; p++) {
                chosen[p] = other.chosen[p];
            }
            for (int r = 0; r < MOST_RESOURCES; r++) {
                loads[r] = other.loads[r];
            }
            closed = other.closed;
        }
    }

    /** The resources and players, and what a play costs them. */
    private static final class Board {
        final Resource[] resources;
        final Player[] players;
        int resourceCount;
        int playerCount;

        Board() {
            resources = new Resource[MOST_RESOURCES];
            for (int r = 0; r < MOST_RESOURCES; r++) {
                resources[r] = new Resource();
            }
            players = new Player[MOST_PLAYERS];
            for (int p = 0; p < MOST_PLAYERS; p++) {
                players[p] = new Player();
            }
        }

        int putResource(char kind, int a, int b) {
            int number = resourceCount;
            resources[number].kind = kind;
            resources[number].a = a;
            resources[number].b = b;
            resources[number].fillDelays();
            resourceCount++;
            return number;
        }

        int putPlayer(int weight, int mind) {
            int number = playerCount;
            players[number].weight = weight;
            players[number].mind = mind;
            playerCount++;
            return number;
        }

        int putWay(Play play, int player, int bits) {
            Player who = players[player];
            int number = who.wayCount;
            who.ways[number] = bits;
            who.wayCount++;
            if (number == 0) {
                take(play, player, 0);
            }
            return number;
        }

        void take(Play play, int player, int way) {
            Player who = players[player];
            int left = who.bitsOf(play.chosen[player]);
            int taken = who.bitsOf(way);
            for (int r = 0; r < resourceCount; r++) {
                if (hasBit(left, r)) {
                    play.loads[r] -= who.weight;
                }
                if (hasBit(taken, r)) {
                    play.loads[r] += who.weight;
                }
            }
            play.chosen[player] = way;
        }

        boolean isOpen(Play play, int player, int way) {
            return (players[player].bitsOf(way) & play.closed) == 0;
        }

        boolean canShut(Play play, int resource) {
            int closed = play.closed | 1 << resource;
            for (int p = 0; p < playerCount; p++) {
                if (players[p].wayCount > 0 && players[p].lowestWithout(closed) < 0) {
                    return false;
                }
            }
            return true;
        }

        void shut(Play play, int resource) {
            play.closed |= 1 << resource;
            for (int p = 0; p < playerCount; p++) {
                if (!isOpen(play, p, play.chosen[p])) {
                    take(play, p, players[p].lowestWithout(play.closed));
                }
            }
        }

        /** What a way costs a player that chooses it alone, all others staying. */
        int costAlone(Play play, int player, int way) {
            Player who = players[player];
            int own = who.bitsOf(play.chosen[player]);
            int bits = who.bitsOf(way);
            int sum = 0;
            for (int r = 0; r < resourceCount; r++) {
                if (hasBit(bits, r)) {
                    int load = play.loads[r] + (hasBit(own, r) ? 0 : who.weight);
                    sum += resources[r].delayBy(load) + resources[r].toll * who.mind;
                }
            }
            return sum;
        }

        int ownCost(Play play, int player) {
            return costAlone(play, player, play.chosen[player]);
        }

        int totalOf(Play play) {
            int sum = 0;
            for (int p = 0; p < playerCount; p++) {
                int bits = players[p].bitsOf(play.chosen[p]);
                for (int r = 0; r < resourceCount; r++) {
                    if (hasBit(bits, r)) {
                        sum += players[p].weight * resources[r].delayBy(play.loads[r]);
                    }
                }
            }
            return sum;
        }

        boolean isAsked(Play play, int player) {
            return !players[player].led && play.chosen[player] >= 0;
        }

        int bestOf(Play play, int player) {
            int best = play.chosen[player];
            int least = costAlone(play, player, best);
            for (int way = 0; way < players[player].wayCount; way++) {
                if (isOpen(play, player, way)) {
                    int cost = costAlone(play, player, way);
                    if (cost < least) {
                        best = way;
                        least = cost;
                    }
                }
            }
            return best;
        }

        /** What a player gains by its best way, 0 for one who is not asked. */
        int gainOf(Play play, int player) {
            if (!isAsked(play, player)) {
                return 0;
            }
            return ownCost(play, player) - costAlone(play, player, bestOf(play, player));
        }

        /** The first player that gains, in turn from the one told round to the one before it, -1 at rest. */
        int firstToGain(Play play, int start) {
            for (int step = 0; step < playerCount; step++) {
                int p = Math.floorMod(start + step, playerCount);
                if (gainOf(play, p) > 0) {
                    return p;
                }
            }
            return -1;
        }

        /** The lowest of the players that gain most, -1 at rest. */
        int mostToGain(Play play) {
            int found = -1;
            int most = 0;
            for (int p = 0; p < playerCount; p++) {
                int gain = gainOf(play, p);
                if (gain > most) {
                    found = p;
                    most = gain;
                }
            }
            return found;
        }

        int countGainers(Play play) {
            int many = 0;
            for (int p = 0; p < playerCount; p++) {
                if (gainOf(play, p) > 0) {
                    many++;
                }
            }
            return many;
        }

        /** The player at a place among those that gain, -1 if they are fewer. */
        int gainerAt(Play play, int place) {
            int before = 0;
            for (int p = 0; p < playerCount; p++) {
                if (gainOf(play, p) > 0) {
                    if (before == place) {
                        return p;
                    }
                    before++;
                }
            }
            return -1;
        }

        /** Every change by which a player gains: a bit at player times MOST_WAYS plus way. */
        int movesOf(Play play) {
            int moves = 0;
            for (int p = 0; p < playerCount; p++) {
                if (isAsked(play, p)) {
                    int own = ownCost(play, p);
                    for (int way = 0; way < players[p].wayCount; way++) {
                        if (isOpen(play, p, way) && costAlone(play, p, way) < own) {
                            moves |= 1 << p * MOST_WAYS + way;
                        }
                    }
                }
            }
            return moves;
        }

        boolean allChangedPayLess(Play before, Play after) {
            for (int p = 0; p < playerCount; p++) {
                if (before.chosen[p] != after.chosen[p] && ownCost(after, p) >= ownCost(before, p)) {
                    return false;
                }
            }
            return true;
        }

        /** Whether all players with ways have the weight 1 and one mind. */
        boolean isEven(Play play) {
            int mind = -1;
            for (int p = 0; p < playerCount; p++) {
                if (play.chosen[p] >= 0) {
                    if (players[p].weight != 1 || mind >= 0 && mind != players[p].mind) {
                        return false;
                    }
                    mind = players[p].mind;
                }
            }
            return true;
        }

        int potentialOf(Play play) {
            int sum = 0;
            for (int r = 0; r < resourceCount; r++) {
                sum += resources[r].delaysUpTo(play.loads[r]);
                for (int p = 0; p < playerCount; p++) {
                    if (hasBit(players[p].bitsOf(play.chosen[p]), r)) {
                        sum += resources[r].toll * players[p].mind;
                    }
                }
            }
            return sum;
        }

        boolean isBalanced(Play play) {
            int balance = 0;
            for (int r = 0; r < resourceCount; r++) {
                balance += play.loads[r];
            }
            for (int p = 0; p < playerCount; p++) {
                balance -= players[p].weight * Integer.bitCount(players[p].bitsOf(play.chosen[p]));
            }
            return balance == 0;
        }

        void growRegrets(Play play, int player) {
            int own = ownCost(play, player);
            for (int way = 0; way < players[player].wayCount; way++) {
                if (isOpen(play, player, way)) {
                    players[player].regrets[way] += own - costAlone(play, player, way);
                }
            }
        }

        /** A player's regret of a way if that is open and the regret above 0, otherwise 0. */
        private long felt(Play play, int player, int way) {
            return isOpen(play, player, way) ? Math.max(0L, players[player].regrets[way]) : 0L;
        }

        long greatestRegret(Play play, int player) {
            long greatest = 0L;
            for (int way = 0; way < players[player].wayCount; way++) {
                greatest = Math.max(greatest, felt(play, player, way));
            }
            return greatest;
        }

        /** The sum of a player's regrets above 0 over those of its first ways that are open. */
        long sumOfRegrets(Play play, int player, int first) {
            long sum = 0L;
            for (int way = 0; way < players[player].wayCount && way < first; way++) {
                sum += felt(play, player, way);
            }
            return sum;
        }

        int wayByRegret(Play play, int player, long rest) {
            for (int way = 0; way < players[player].wayCount; way++) {
                if (rest < sumOfRegrets(play, player, way + 1)) {
                    return way;
                }
            }
            return play.chosen[player];
        }
    }

    /** All plays: their numbers, totals, and the changes that lead from one to another. */
    private static final class Survey {
        private static final int MOVES = MOST_PLAYERS * MOST_WAYS;
        private static final int MOST_STEPS = 1000000;
        private static final int UNSEEN = 0;
        private static final int ON_THE_WAY = 1;
        private static final int FINISHED = 2;

        final int[] sizes;
        final int[] strides;
        final int[] wayAt;
        final int[] placeOf;
        final int[] totals;
        final int[] moves;
        final int[] marks;
        final int[] lengths;
        final int[] tried;
        final int[] stack;
        final Play shown;
        int count;
        private int filled;

        Survey() {
            sizes = new int[MOST_PLAYERS];
            strides = new int[MOST_PLAYERS];
            wayAt = new int[MOVES];
            placeOf = new int[MOVES];
            totals = new int[MOST_PLAYS];
            moves = new int[MOST_PLAYS];
            marks = new int[MOST_PLAYS];
            lengths = new int[MOST_PLAYS];
            tried = new int[MOST_PLAYS];
            stack = new int[MOST_PLAYS];
            shown = new Play();
        }

        /** Numbers the plays that there are from the one told, the ways of the last player changing first. */
        void number(Board board, Play from) {
            shown.closed = from.closed;
            count = 1;
            for (int p = board.playerCount - 1; p >= 0; p--) {
                sizes[p] = 0;
                strides[p] = count;
                if (board.isAsked(from, p)) {
                    for (int way = 0; way < board.players[p].wayCount; way++) {
                        if (board.isOpen(from, p, way)) {
                            admit(p, way);
                        }
                    }
                } else {
                    admit(p, from.chosen[p]);
                }
                count *= sizes[p];
            }
        }

        private void admit(int player, int way) {
            int place = sizes[player];
            wayAt[player * MOST_WAYS + place] = way;
            if (way >= 0) {
                placeOf[player * MOST_WAYS + way] = place;
            }
            sizes[player]++;
        }

        /** Which of a player's ways a play has, counted among those that the plays have. */
        private int placeIn(int play, int player) {
            return strides[player] < 1 || sizes[player] < 1 ? 0 : play / strides[player] % sizes[player];
        }

        void show(Board board, int play) {
            for (int p = 0; p < board.playerCount; p++) {
                int way = wayAt[p * MOST_WAYS + placeIn(play, p)];
                if (shown.chosen[p] != way) {
                    board.take(shown, p, way);
                }
            }
        }

        void fill(Board board) {
            filled = Math.min(count, MOST_PLAYS);
            for (int play = 0; play < filled; play++) {
                show(board, play);
                totals[play] = board.totalOf(shown);
                moves[play] = board.movesOf(shown);
            }
        }

        int indexOf(Board board, Play play) {
            int index = 0;
            for (int p = 0; p < board.playerCount; p++) {
                if (play.chosen[p] >= 0) {
                    index += placeOf[p * MOST_WAYS + play.chosen[p]] * strides[p];
                }
            }
            return index;
        }

        private boolean isAtRest(int play) {
            return moves[play] == 0;
        }

        int countAtRest() {
            int many = 0;
            for (int play = 0; play < filled; play++) {
                if (isAtRest(play)) {
                    many++;
                }
            }
            return many;
        }

        /** The play that is at rest with so many at rest before it, -1 if there is none. */
        int restAt(int index) {
            int before = 0;
            for (int play = 0; play < filled; play++) {
                if (isAtRest(play)) {
                    if (before == index) {
                        return play;
                    }
                    before++;
                }
            }
            return -1;
        }

        /** The least total of any play, or only of those at rest; -1 if there is none. */
        int leastOf(boolean onlyAtRest) {
            int least = -1;
            for (int play = 0; play < filled; play++) {
                if ((!onlyAtRest || isAtRest(play)) && (least < 0 || totals[play] < least)) {
                    least = totals[play];
                }
            }
            return least;
        }

        /** The greatest total of a play at rest, -1 if there is none. */
        int greatestRest() {
            int greatest = -1;
            for (int play = 0; play < filled; play++) {
                if (isAtRest(play)) {
                    greatest = Math.max(greatest, totals[play]);
                }
            }
            return greatest;
        }

        boolean anyRing() {
            forget();
            for (int play = 0; play < filled; play++) {
                if (marks[play] == UNSEEN && meetsRing(play)) {
                    return true;
                }
            }
            return false;
        }

        /** The most changes that can be made from a play, -1 if a ring can be come to. */
        int longestFrom(int play) {
            forget();
            return meetsRing(play) ? -1 : lengths[play];
        }

        private void forget() {
            for (int play = 0; play < filled; play++) {
                marks[play] = UNSEEN;
            }
        }

        /** Goes through all that can be come to from a play, in depth first, by a stack of its own. */
        private boolean meetsRing(int start) {
            int top = 0;
            enter(start, top);
            for (int step = 0; step < MOST_STEPS && top >= 0; step++) {
                int play = stack[top];
                if (tried[play] >= MOVES) {
                    marks[play] = FINISHED;
                    top--;
                    if (top >= 0) {
                        lengthen(stack[top], play);
                    }
                } else {
                    int move = tried[play]++;
                    int next = hasBit(moves[play], move) ? after(play, move) : play;
                    if (next != play && marks[next] == ON_THE_WAY) {
                        return true;
                    }
                    if (marks[next] == FINISHED) {
                        lengthen(play, next);
                    } else if (next != play) {
                        top++;
                        enter(next, top);
                    }
                }
            }
            return false;
        }

        private void enter(int play, int top) {
            stack[top] = play;
            marks[play] = ON_THE_WAY;
            tried[play] = 0;
            lengths[play] = 0;
        }

        private void lengthen(int play, int next) {
            lengths[play] = Math.max(lengths[play], lengths[next] + 1);
        }

        private int after(int play, int move) {
            int player = move / MOST_WAYS;
            return play + (placeOf[move] - placeIn(play, player)) * strides[player];
        }
    }

    /** The ways of a traveller. */
    private static final class Paths {
        private static final int MOST_PARTS = 1 << MOST_RESOURCES;

        final int[] ways;
        int found;
        private final int[] roads;
        private final int[] ends;
        private final int[] seen;

        Paths() {
            ways = new int[MOST_WAYS];
            roads = new int[MOST_PARTS];
            ends = new int[MOST_PARTS];
            seen = new int[MOST_PARTS];
        }

        /**
         * Lengthens paths in the order in which they were found, by the lowest road first: so they come by their
         * number of roads, then by their numbers. No two have the same roads, so MOST_PARTS are enough.
         */
        void search(Board board, int closed, int from, int to) {
            found = 0;
            roads[0] = 0;
            ends[0] = from;
            seen[0] = 1 << from;
            int many = 1;
            for (int part = 0; part < many && part < MOST_PARTS && found < MOST_WAYS; part++) {
                for (int r = 0; r < board.resourceCount; r++) {
                    Resource road = board.resources[r];
                    if (hasBit(closed, r) || road.from != ends[part] || hasBit(seen[part], road.to)) {
                        continue;
                    }
                    if (road.to == to) {
                        keep(roads[part] | 1 << r);
                    } else if (many < MOST_PARTS) {
                        roads[many] = roads[part] | 1 << r;
                        ends[many] = road.to;
                        seen[many] = seen[part] | 1 << road.to;
                        many++;
                    }
                }
            }
        }

        private void keep(int way) {
            if (found < MOST_WAYS) {
                ways[found] = way;
                found++;
            }
        }
    }

    /** The delay at which a crowd is spread, as a fraction. */
    private static final class Level {
        /** A multiple of every a from 1 to 20, so that all shares are whole numbers. */
        private static final long COMMON = 232792560L;
        private static final int MOST_DIVISIONS = 1000;

        long above;
        long below;

        /** Whether there is a resource to spread over; if so the fraction is told. */
        boolean spread(Board board, int closed, int crowd) {
            int used = usable(board, closed);
            if (used == 0) {
                return false;
            }
            for (int round = 0; round <= MOST_RESOURCES; round++) {
                fillTo(board, used, crowd);
                used = reached(board, used);
            }
            reduce();
            return true;
        }

        private int usable(Board board, int closed) {
            int bits = 0;
            for (int r = 0; r < board.resourceCount; r++) {
                if (!hasBit(closed, r) && board.resources[r].growsEvenly()) {
                    bits |= 1 << r;
                }
            }
            return bits;
        }

        private void fillTo(Board board, int used, int crowd) {
            above = crowd * COMMON;
            below = 0L;
            for (int r = 0; r < board.resourceCount; r++) {
                int a = board.resources[r].a;
                if (hasBit(used, r) && a > 0) {
                    above += board.resources[r].b * (COMMON / a);
                    below += COMMON / a;
                }
            }
        }

        /** Those of the used that the level reaches: over too many it is never too low, so the others are out. */
        private int reached(Board board, int used) {
            int bits = 0;
            for (int r = 0; r < board.resourceCount; r++) {
                if (hasBit(used, r) && board.resources[r].b * below <= above) {
                    bits |= 1 << r;
                }
            }
            return bits;
        }

        private void reduce() {
            long divisor = above;
            long rest = below;
            for (int step = 0; step < MOST_DIVISIONS && rest != 0L; step++) {
                long next = divisor % rest;
                divisor = rest;
                rest = next;
            }
            if (divisor > 0L) {
                above /= divisor;
                below /= divisor;
            }
        }
    }
}
