import java.util.NoSuchElementException;

/** Each promise by hand: ordinary inputs, the edges that the document names, wrong inputs. */
public final class PromiseTest {
    private static final Class<IllegalArgumentException> ARGUMENT = IllegalArgumentException.class;
    private static final Class<IllegalStateException> STATE = IllegalStateException.class;
    private static final Class<IndexOutOfBoundsException> INDEX = IndexOutOfBoundsException.class;
    private static final Class<UnsupportedOperationException> OPERATION = UnsupportedOperationException.class;
    private static final Class<NoSuchElementException> ELEMENT = NoSuchElementException.class;
    private static final Class<ArithmeticException> ARITHMETIC = ArithmeticException.class;

    public static void main(String[] args) {
        newObject();
        addResource();
        addRoad();
        addPlayer();
        addWay();
        addTraveller();
        travellersWays();
        countAndGetWays();
        chooseAndGetChosen();
        loads();
        delays();
        costs();
        totals();
        setToll();
        margins();
        setMind();
        lead();
        close();
        closeAndOpen();
        bestWay();
        improve();
        restAndGreatestGain();
        runInTurn();
        runGreatest();
        runByDraws();
        potential();
        countPlays();
        rests();
        goToRest();
        leastTotal();
        rings();
        longestRun();
        thousandPlays();
        isStrong();
        paradox();
        paradoxWithLed();
        learn();
        learnTogether();
        regret();
        setSeed();
        level();
        levelWrong();
        quotients();
        checksum();
        isSound();
        Check.finish();
    }

    private static void due(String what, Object got, Object want) {
        Check.due(what, got, want);
    }

    private static long sum(long... parts) {
        long sum = 7;
        for (long part : parts) {
            sum = 31 * sum + part;
        }
        return sum;
    }

    private static void newObject() {
        SelfishJunction x = new SelfishJunction();
        due("checksum of a new object", x.checksum(), 7L * 31 + 1);
        due("total of a new object", x.getTotal(), 0);
        due("plays of a new object", x.countPlays(), 1);
        due("rests of a new object", x.countRests(), 1);
        due("isRest of a new object", x.isRest(), true);
        due("greatestGain of a new object", x.greatestGain(), 0);
        due("potential of a new object", x.getPotential(), 0);
        due("tolls of a new object", x.tollByMargins(), 0);
        due("run of a new object", x.run('r', 5), 0);
        due("learn of a new object", x.learn(3), 0);
        due("longestRun of a new object", x.longestRun(), 0);
        due("isStrong of a new object", x.isStrong(), true);
        due("hasRing of a new object", x.hasRing(), false);
        due("isSound of a new object", x.isSound(), true);
        Check.thrown("a resource of a new object", INDEX, () -> x.getLoad(0));
        Check.thrown("a player of a new object", INDEX, () -> x.countWays(0));
        Check.thrown("paradox of a new object", ELEMENT, x::paradox);
    }

    private static void addResource() {
        SelfishJunction x = new SelfishJunction();
        Check.thrown("kind x", ARGUMENT, () -> x.addResource('x', 0, 0));
        Check.thrown("kind L", ARGUMENT, () -> x.addResource('L', 0, 0));
        Check.thrown("a -1", ARGUMENT, () -> x.addResource('c', -1, 0));
        Check.thrown("a 21", ARGUMENT, () -> x.addResource('c', 21, 0));
        Check.thrown("b -1", ARGUMENT, () -> x.addResource('c', 0, -1));
        Check.thrown("b 1000", ARGUMENT, () -> x.addResource('c', 0, 1000));
        String kinds = "clqsclqs";
        for (int r = 0; r < 8; r++) {
            due("addResource", x.addResource(kinds.charAt(r), r % 2 * 20, r % 2 * 999), r);
        }
        Check.thrown("the ninth resource", STATE, () -> x.addResource('c', 0, 0));
        Check.thrown("a wrong ninth resource", ARGUMENT, () -> x.addResource('c', 21, 0));
        Check.thrown("the resource 8", INDEX, () -> x.getLoad(8));
    }

    private static void addRoad() {
        SelfishJunction x = new SelfishJunction();
        Check.thrown("the same node", ARGUMENT, () -> x.addRoad(2, 2, 'c', 0, 0));
        Check.thrown("from -1", ARGUMENT, () -> x.addRoad(-1, 2, 'c', 0, 0));
        Check.thrown("from 6", ARGUMENT, () -> x.addRoad(6, 2, 'c', 0, 0));
        Check.thrown("to -1", ARGUMENT, () -> x.addRoad(0, -1, 'c', 0, 0));
        Check.thrown("to 6", ARGUMENT, () -> x.addRoad(0, 6, 'c', 0, 0));
        Check.thrown("kind z", ARGUMENT, () -> x.addRoad(0, 1, 'z', 0, 0));
        Check.thrown("a 21", ARGUMENT, () -> x.addRoad(0, 1, 'l', 21, 0));
        Check.thrown("b -1", ARGUMENT, () -> x.addRoad(0, 1, 'l', 0, -1));
        x.addResource('c', 0, 5);
        due("a road behind a resource", x.addRoad(0, 5, 'l', 20, 999), 1);
        due("a delay of the road", x.getDelay(1, 2), 1039);
        for (int r = 2; r < 8; r++) {
            due("addRoad", x.addRoad(5, 0, 'q', 0, 0), r);
        }
        Check.thrown("the ninth road", STATE, () -> x.addRoad(0, 1, 'c', 0, 0));
        Check.thrown("a wrong ninth road", ARGUMENT, () -> x.addRoad(1, 1, 'c', 0, 0));
    }

    private static void addPlayer() {
        SelfishJunction x = new SelfishJunction();
        Check.thrown("weight 0", ARGUMENT, () -> x.addPlayer(0, 0));
        Check.thrown("weight 4", ARGUMENT, () -> x.addPlayer(4, 0));
        Check.thrown("mind -1", ARGUMENT, () -> x.addPlayer(1, -1));
        Check.thrown("mind 10", ARGUMENT, () -> x.addPlayer(1, 10));
        for (int p = 0; p < 6; p++) {
            due("addPlayer", x.addPlayer(1 + p % 3, p % 2 * 9), p);
            due("chosen without ways", x.getChosen(p), -1);
        }
        Check.thrown("the seventh player", STATE, () -> x.addPlayer(1, 0));
        Check.thrown("a wrong seventh player", ARGUMENT, () -> x.addPlayer(0, 0));
        Check.thrown("the player 6", INDEX, () -> x.getChosen(6));
    }

    private static void addWay() {
        SelfishJunction x = new SelfishJunction();
        x.addResource('c', 0, 1);
        x.addResource('c', 0, 2);
        x.addResource('c', 0, 3);
        x.addPlayer(2, 0);
        Check.thrown("no such player", INDEX, () -> x.addWay(1, 0));
        Check.thrown("the player -1", INDEX, () -> x.addWay(-1, 1));
        Check.thrown("no resources", ARGUMENT, () -> x.addWay(0, 0));
        Check.thrown("the resource 3", ARGUMENT, () -> x.addWay(0, 8));
        Check.thrown("a high resource", ARGUMENT, () -> x.addWay(0, 1 << 30 | 1));
        Check.thrown("negative bits", ARGUMENT, () -> x.addWay(0, -1));
        due("nothing is changed", x.countWays(0), 0);
        due("the first way", x.addWay(0, 2), 0);
        due("the first way is chosen", x.getChosen(0), 0);
        due("its load", x.getLoad(1), 2);
        due("the second way", x.addWay(0, 7), 1);
        due("the first way stays chosen", x.getChosen(0), 0);
        Check.thrown("the same way", OPERATION, () -> x.addWay(0, 7));
        x.close(2, true);
        Check.thrown("a closed one", OPERATION, () -> x.addWay(0, 4));
        x.close(2, false);
        x.addWay(0, 1);
        x.addWay(0, 3);
        x.addWay(0, 4);
        Check.thrown("the sixth way", STATE, () -> x.addWay(0, 5));
        Check.thrown("the sixth way, one that it has", OPERATION, () -> x.addWay(0, 4));
        Check.thrown("the sixth way, without resources", ARGUMENT, () -> x.addWay(0, 8));
        due("five ways", x.countWays(0), 5);
    }

    private static void addTraveller() {
        SelfishJunction x = new SelfishJunction();
        x.addRoad(0, 1, 'c', 0, 1);
        Check.thrown("the same node", ARGUMENT, () -> x.addTraveller(1, 1, 1, 0));
        Check.thrown("from -1", ARGUMENT, () -> x.addTraveller(-1, 1, 1, 0));
        Check.thrown("to 6", ARGUMENT, () -> x.addTraveller(0, 6, 1, 0));
        Check.thrown("weight 4", ARGUMENT, () -> x.addTraveller(0, 1, 4, 0));
        Check.thrown("mind 10", ARGUMENT, () -> x.addTraveller(0, 1, 1, 10));
        Check.thrown("wrong, and no path", ARGUMENT, () -> x.addTraveller(1, 0, 0, 0));
        Check.thrown("against the road", ELEMENT, () -> x.addTraveller(1, 0, 1, 0));
        due("nothing is changed", x.checksum(), sum(0, 0, 1));
        x.close(0, true);
        Check.thrown("a closed road", ELEMENT, () -> x.addTraveller(0, 1, 1, 0));
        x.close(0, false);
        due("a traveller", x.addTraveller(0, 1, 3, 9), 0);
        due("its way", x.getWay(0, 0), 1);
        due("it has chosen that", x.getChosen(0), 0);
        due("its load", x.getLoad(0), 3);
        for (int p = 1; p < 6; p++) {
            due("a traveller", x.addTraveller(0, 1, 1, 0), p);
        }
        Check.thrown("a seventh traveller", STATE, () -> x.addTraveller(0, 1, 1, 0));
        Check.thrown("a seventh one without a path", ELEMENT, () -> x.addTraveller(1, 0, 1, 0));
        Check.thrown("a wrong seventh one", ARGUMENT, () -> x.addTraveller(1, 1, 1, 0));
    }

    private static void dueWays(SelfishJunction x, int player, int... ways) {
        due("how many ways", x.countWays(player), ways.length);
        for (int way = 0; way < ways.length; way++) {
            due("the way " + way, x.getWay(player, way), ways[way]);
        }
    }

    private static void travellersWays() {
        SelfishJunction x = new SelfishJunction();
        x.addRoad(2, 3, 'c', 0, 1);
        x.addRoad(0, 2, 'c', 0, 1);
        x.addRoad(1, 3, 'c', 0, 1);
        x.addRoad(0, 1, 'c', 0, 1);
        x.addRoad(1, 2, 'c', 0, 1);
        x.addRoad(2, 1, 'c', 0, 1);
        x.addRoad(3, 0, 'c', 0, 1);
        x.addTraveller(0, 3, 1, 0);
        // 1 0, 3 2 by two roads; 1 5 2, 3 4 0 by three
        dueWays(x, 0, 3, 12, 2 + 32 + 4, 8 + 16 + 1);
        x.addRoad(0, 3, 'c', 0, 1);
        x.addTraveller(0, 3, 1, 0);
        dueWays(x, 1, 128, 3, 12, 38, 25);
        x.close(0, true);
        x.addTraveller(0, 3, 1, 0);
        dueWays(x, 2, 128, 12, 38);
        SelfishJunction y = new SelfishJunction();
        for (int r = 0; r < 8; r++) {
            y.addRoad(r < 4 ? 0 : 1, r < 4 ? 1 : 2, 'c', 0, 1);
        }
        y.addTraveller(0, 2, 1, 0);
        dueWays(y, 0, 1 + 16, 1 + 32, 1 + 64, 1 + 128, 2 + 16);
    }

    private static void countAndGetWays() {
        SelfishJunction x = Junctions.mixed();
        due("ways of 0", x.countWays(0), 3);
        due("ways of 2", x.countWays(2), 0);
        due("a way", x.getWay(0, 2), 12);
        due("another way", x.getWay(1, 1), 4);
        Check.thrown("countWays of 3", INDEX, () -> x.countWays(3));
        Check.thrown("countWays of -1", INDEX, () -> x.countWays(-1));
        Check.thrown("getWay of 3", INDEX, () -> x.getWay(3, 0));
        Check.thrown("the way 3", INDEX, () -> x.getWay(0, 3));
        Check.thrown("the way -1", INDEX, () -> x.getWay(0, -1));
        Check.thrown("a way of one without", INDEX, () -> x.getWay(2, 0));
    }

    private static void chooseAndGetChosen() {
        SelfishJunction x = Junctions.mixed();
        due("choose", x.choose(0, 2), 0);
        due("chosen", x.getChosen(0), 2);
        due("the same again", x.choose(0, 2), 2);
        due("loads", x.getLoad(0) * 100 + x.getLoad(2) * 10 + x.getLoad(3), 211);
        due("a led one chooses too", x.lead(0, true), false);
        due("choose", x.choose(0, 1), 2);
        Check.thrown("choose of 3", INDEX, () -> x.choose(3, 0));
        Check.thrown("choose of -1", INDEX, () -> x.choose(-1, 0));
        Check.thrown("the way 3", INDEX, () -> x.choose(0, 3));
        Check.thrown("the way -1", INDEX, () -> x.choose(0, -1));
        Check.thrown("a way of one without", INDEX, () -> x.choose(2, 0));
        x.close(3, true);
        Check.thrown("a closed way", OPERATION, () -> x.choose(0, 2));
        due("nothing is changed", x.getChosen(0), 1);
        due("chosen without ways", x.getChosen(2), -1);
        Check.thrown("getChosen of 3", INDEX, () -> x.getChosen(3));
        Check.thrown("getChosen of -1", INDEX, () -> x.getChosen(-1));
    }

    private static void loads() {
        SelfishJunction x = Junctions.mixed();
        due("both weigh on it", x.getLoad(0), 3);
        due("nobody on it", x.getLoad(1), 0);
        x.choose(1, 1);
        due("the light one", x.getLoad(0), 1);
        due("the heavy one", x.getLoad(2), 2);
        Check.thrown("getLoad of 4", INDEX, () -> x.getLoad(4));
        Check.thrown("getLoad of -1", INDEX, () -> x.getLoad(-1));
    }

    private static void delays() {
        SelfishJunction x = new SelfishJunction();
        x.addResource('c', 9, 7);
        x.addResource('l', 4, 1);
        x.addResource('q', 20, 999);
        x.addResource('s', 3, 2);
        for (int r = 0; r < 4; r++) {
            due("a load of 0", x.getDelay(r, 0), 0);
        }
        due("c by 1", x.getDelay(0, 1), 7);
        due("c by 18", x.getDelay(0, 18), 7);
        due("l by 1", x.getDelay(1, 1), 5);
        due("l by 18", x.getDelay(1, 18), 73);
        due("q by 1", x.getDelay(2, 1), 1019);
        due("q by 18", x.getDelay(2, 18), 7479);
        due("s by 1", x.getDelay(3, 1), 302);
        due("s by 7, rounded up", x.getDelay(3, 7), 45);
        due("s by 3, whole", x.getDelay(3, 3), 102);
        due("s by 18", x.getDelay(3, 18), 19);
        Check.thrown("no such resource", INDEX, () -> x.getDelay(4, 19));
        Check.thrown("the resource -1", INDEX, () -> x.getDelay(-1, 1));
        Check.thrown("load 19", ARGUMENT, () -> x.getDelay(0, 19));
        Check.thrown("load -1", ARGUMENT, () -> x.getDelay(0, -1));
    }

    private static void costs() {
        SelfishJunction x = Junctions.mixed();
        due("cost of 0", x.getCost(0), 7);
        due("cost of 1, not by weight", x.getCost(1), 7);
        due("cost without ways", x.getCost(2), 0);
        due("costOf the own way", x.costOf(0, 0), 7);
        due("costOf another way", x.costOf(0, 1), 4);
        due("costOf two resources", x.costOf(0, 2), 507);
        due("costOf by the own weight", x.costOf(1, 1), 250);
        x.setToll(0, 5);
        x.setToll(3, 1);
        due("a toll that is minded", x.getCost(0), 17);
        due("a toll that is not", x.getCost(1), 7);
        due("costOf with a toll", x.costOf(0, 2), 509);
        x.addWay(1, 3);
        due("a resource that it has already", x.costOf(1, 2), 7 + 7);
        x.close(1, true);
        due("costOf a closed way", x.costOf(0, 1), 4);
        Check.thrown("getCost of 3", INDEX, () -> x.getCost(3));
        Check.thrown("getCost of -1", INDEX, () -> x.getCost(-1));
        Check.thrown("costOf of 3", INDEX, () -> x.costOf(3, 0));
        Check.thrown("costOf the way 3", INDEX, () -> x.costOf(0, 3));
        Check.thrown("costOf the way -1", INDEX, () -> x.costOf(0, -1));
        Check.thrown("costOf without ways", INDEX, () -> x.costOf(2, 0));
    }

    private static void totals() {
        SelfishJunction x = Junctions.mixed();
        due("total by weight", x.getTotal(), 21);
        x.setToll(0, 9);
        due("tolls aside", x.getTotal(), 21);
        x.choose(0, 2);
        due("two resources", x.getTotal(), 500 + 7 + 2 * 5);
    }

    private static void setToll() {
        SelfishJunction x = Junctions.mixed();
        due("the first toll", x.setToll(3, 9999), 0);
        due("the toll before", x.setToll(3, 0), 9999);
        Check.thrown("no such resource", INDEX, () -> x.setToll(4, -1));
        Check.thrown("the resource -1", INDEX, () -> x.setToll(-1, 0));
        Check.thrown("toll -1", ARGUMENT, () -> x.setToll(3, -1));
        Check.thrown("toll 10000", ARGUMENT, () -> x.setToll(3, 10000));
        due("nothing is changed", x.setToll(3, 1), 0);
    }

    private static void margins() {
        SelfishJunction x = Junctions.mixed();
        due("a margin", x.getMargin(0), 2 * (7 - 5));
        due("by a load of 0", x.getMargin(1), 0);
        x.choose(1, 1);
        due("by a load of 1", x.getMargin(0), 0);
        due("a delay that sinks", x.getMargin(2), 0);
        x.addWay(2, 2);
        due("a square", x.getMargin(1), 2 * 5);
        x.setToll(2, 8);
        due("sum of tolls", x.tollByMargins(), 10);
        due("the toll of 1", x.setToll(1, 0), 10);
        due("the toll of 2", x.setToll(2, 0), 0);
        Check.thrown("getMargin of 4", INDEX, () -> x.getMargin(4));
        Check.thrown("getMargin of -1", INDEX, () -> x.getMargin(-1));
        SelfishJunction y = new SelfishJunction();
        y.addResource('q', 20, 0);
        y.addResource('l', 20, 0);
        for (int p = 0; p < 6; p++) {
            y.addPlayer(3, 0);
            y.addWay(p, 3);
        }
        due("a great margin", y.getMargin(0), 17 * 20 * 35);
        due("9999 at most", y.tollByMargins(), 9999 + 17 * 20);
        due("the toll of 0", y.setToll(0, 0), 9999);
    }

    private static void setMind() {
        SelfishJunction x = Junctions.mixed();
        due("the first mind", x.setMind(0, 9), 2);
        due("the mind before", x.setMind(0, 0), 9);
        x.setToll(0, 100);
        due("no mind for tolls", x.getCost(0), 7);
        Check.thrown("no such player", INDEX, () -> x.setMind(3, 10));
        Check.thrown("the player -1", INDEX, () -> x.setMind(-1, 0));
        Check.thrown("mind -1", ARGUMENT, () -> x.setMind(0, -1));
        Check.thrown("mind 10", ARGUMENT, () -> x.setMind(0, 10));
        due("nothing is changed", x.setMind(0, 1), 0);
    }

    private static void lead() {
        SelfishJunction x = Junctions.mixed();
        due("not led at first", x.lead(0, true), false);
        due("led", x.lead(0, true), true);
        due("nobody is asked who gains", x.isRest(), true);
        due("the best way of a led one", x.bestWay(0), 1);
        due("led no more", x.lead(0, false), true);
        due("not led", x.lead(0, false), false);
        due("asked again", x.isRest(), false);
        due("one without ways", x.lead(2, true), false);
        Check.thrown("lead of 3", INDEX, () -> x.lead(3, true));
        Check.thrown("lead of -1", INDEX, () -> x.lead(-1, true));
    }

    private static void close() {
        SelfishJunction x = Junctions.mixed();
        due("open at first", x.close(3, true), false);
        due("closed already", x.close(3, true), true);
        due("opened", x.close(3, false), true);
        due("open already", x.close(3, false), false);
        x.lead(1, true);
        x.choose(0, 1);
        due("close", x.close(0, true), false);
        due("one who is not on it stays", x.getChosen(0), 1);
        due("one who is led goes too", x.getChosen(1), 1);
        due("no load on it", x.getLoad(0), 0);
        due("its load is elsewhere", x.getLoad(2), 2);
        Check.thrown("the last open way of one", OPERATION, () -> x.close(2, true));
        due("nothing is changed", x.getChosen(1), 1);
        due("opening is no matter", x.close(2, false), false);
        Check.thrown("close of 4", INDEX, () -> x.close(4, true));
        Check.thrown("close of -1", INDEX, () -> x.close(-1, false));
    }

    private static void closeAndOpen() {
        SelfishJunction x = new SelfishJunction();
        x.addResource('c', 0, 1);
        x.addResource('c', 0, 2);
        x.addResource('c', 0, 3);
        x.addPlayer(1, 0);
        x.addWay(0, 1);
        x.addWay(0, 6);
        x.addWay(0, 4);
        x.choose(0, 1);
        x.close(1, true);
        due("the lowest open way, not the next", x.getChosen(0), 0);
        x.close(0, true);
        due("the only open way", x.getChosen(0), 2);
        x.close(0, false);
        x.close(1, false);
        due("opening changes no choice", x.getChosen(0), 2);
        due("though there is a better way", x.bestWay(0), 0);
    }

    private static void bestWay() {
        SelfishJunction x = Junctions.mixed();
        due("a better way", x.bestWay(0), 1);
        due("its own way", x.bestWay(1), 0);
        x.close(1, true);
        due("only open ways", x.bestWay(0), 0);
        Check.thrown("one without ways", ELEMENT, () -> x.bestWay(2));
        Check.thrown("bestWay of 3", INDEX, () -> x.bestWay(3));
        Check.thrown("bestWay of -1", INDEX, () -> x.bestWay(-1));
        SelfishJunction y = new SelfishJunction();
        for (int b : new int[] {5, 3, 3, 3}) {
            y.addResource('c', 0, b);
        }
        y.addPlayer(1, 0);
        for (int way = 0; way < 4; way++) {
            y.addWay(0, 1 << way);
        }
        due("the lowest of like ones", y.bestWay(0), 1);
        y.choose(0, 2);
        due("the own one of like ones", y.bestWay(0), 2);
    }

    private static void improve() {
        SelfishJunction x = Junctions.mixed();
        due("a gain", x.improve(0), 3);
        due("the way then", x.getChosen(0), 1);
        due("it stays", x.improve(0), 0);
        due("it stays", x.improve(1), 0);
        Check.thrown("one without ways", OPERATION, () -> x.improve(2));
        x.lead(0, true);
        Check.thrown("one who is led", OPERATION, () -> x.improve(0));
        Check.thrown("improve of 3", INDEX, () -> x.improve(3));
        Check.thrown("improve of -1", INDEX, () -> x.improve(-1));
    }

    private static void restAndGreatestGain() {
        SelfishJunction x = Junctions.mixed();
        due("not at rest", x.isRest(), false);
        due("the only gain", x.greatestGain(), 3);
        x.choose(1, 1);
        // the heavy one pays 250 where 3 loads would cost 7; the light one pays 3, which is its least
        due("the greatest gain", x.greatestGain(), 243);
        x.lead(1, true);
        due("who is led is not asked", x.greatestGain(), 0);
        due("at rest", x.isRest(), true);
    }

    private static void runInTurn() {
        SelfishJunction x = Junctions.even(5);
        due("as many as told", x.run('r', 1), 1);
        due("the first one", x.getChosen(0), 1);
        due("until rest", x.run('r', 200), 1);
        due("the next one", x.getChosen(1), 1);
        due("at rest", x.run('r', 1), 0);
        // 1 changes first; then 0 and 2 gain, and either will do
        SelfishJunction y = inTurn();
        due("until rest", y.run('r', 200), 2);
        due("2 is behind 1", chosen(y), 11);
        y = inTurn();
        y.run('r', 1);
        due("a run of its own", y.run('r', 1), 1);
        due("begins with 0 again", chosen(y), 110);
        SelfishJunction z = Junctions.even(3);
        Check.thrown("rule x", ARGUMENT, () -> z.run('x', 1));
        Check.thrown("rule R", ARGUMENT, () -> z.run('R', 1));
        Check.thrown("most 0", ARGUMENT, () -> z.run('r', 0));
        Check.thrown("most 201", ARGUMENT, () -> z.run('g', 201));
        due("nothing is changed", z.getTotal(), 90);
        z.lead(0, true);
        due("who is led is passed over", z.run('r', 9), 1);
        due("who is led stays", z.getChosen(0), 0);
        due("no rest anywhere", Junctions.restless().run('r', 200), 200);
        due("200 at most", Junctions.restless().run('g', 200), 200);
        due("z likewise", Junctions.restless().run('z', 200), 200);
    }

    private static SelfishJunction inTurn() {
        SelfishJunction x = new SelfishJunction();
        x.addResource('l', 4, 30);
        x.addResource('l', 5, 10);
        int[] weights = {1, 3, 2};
        for (int p = 0; p < 3; p++) {
            x.addPlayer(weights[p], 0);
            x.addWay(p, p == 1 ? 1 : 2);
            x.addWay(p, p == 1 ? 2 : 1);
        }
        return x;
    }

    /** The ways of three players, as the digits of a number. */
    private static int chosen(SelfishJunction x) {
        return x.getChosen(0) * 100 + x.getChosen(1) * 10 + x.getChosen(2);
    }

    private static void runGreatest() {
        SelfishJunction x = new SelfishJunction();
        x.addResource('c', 0, 10);
        x.addResource('c', 0, 30);
        x.addResource('c', 0, 1);
        for (int p = 0; p < 3; p++) {
            x.addPlayer(1, 0);
            x.addWay(p, p == 0 ? 1 : 2);
            x.addWay(p, 4);
        }
        due("one change", x.run('g', 1), 1);
        due("the lowest of those that gain most", x.getChosen(1), 1);
        due("not the first that gains", x.getChosen(0), 0);
        due("another change", x.run('g', 1), 1);
        due("the other that gains as much", x.getChosen(2), 1);
        due("the last", x.run('g', 200), 1);
        due("all on the best", x.getTotal(), 3);
    }

    private static void runByDraws() {
        SelfishJunction x = Junctions.even(3);
        // z becomes 48271, and 48271 modulo 3 is 1
        due("until rest", x.run('z', 200), 1);
        due("who changed", chosen(x), 10);
        due("z is drawn once", x.setSeed(1), 48271);
        due("at rest", x.run('z', 200), 0);
        due("z is not drawn at rest", x.setSeed(2), 1);
        SelfishJunction y = Junctions.even(3);
        y.setSeed(2);
        // of 96542 modulo 2, since 0 is led and only 1 and 2 are asked
        y.lead(0, true);
        y.run('z', 1);
        due("who changed of two", chosen(y), 10);
        due("z then", y.setSeed(1), 96542);
    }

    private static void potential() {
        SelfishJunction x = new SelfishJunction();
        x.addResource('l', 10, 1);
        x.addResource('s', 2, 3);
        x.addPlayer(1, 2);
        x.addPlayer(1, 2);
        x.addPlayer(3, 5);
        x.addWay(0, 1);
        x.addWay(1, 3);
        x.setToll(0, 7);
        x.setToll(1, 100);
        due("one without ways is no matter", x.getPotential(), 11 + 21 + 203 + 2 * 7 * 2 + 100 * 2);
        x.lead(1, true);
        x.setMind(1, 3);
        Check.thrown("two minds", OPERATION, x::getPotential);
        x.setMind(1, 2);
        x.addWay(2, 1);
        x.setMind(2, 2);
        Check.thrown("a weight of 3", OPERATION, x::getPotential);
        SelfishJunction y = Junctions.braess();
        int before = y.getPotential();
        int gain = y.improve(0);
        due("it sinks by the gain", y.getPotential(), before - gain);
    }

    private static void countPlays() {
        SelfishJunction x = Junctions.mixed();
        due("one without ways counts once", x.countPlays(), 6);
        x.lead(0, true);
        due("who is led", x.countPlays(), 2);
        x.lead(0, false);
        x.close(3, true);
        due("only open ways", x.countPlays(), 4);
        due("a thousand", Junctions.thousand().countPlays(), 1000);
        SelfishJunction y = new SelfishJunction();
        y.addResource('c', 0, 1);
        y.addResource('c', 0, 1);
        y.addResource('c', 0, 1);
        for (int p = 0; p < 6; p++) {
            y.addPlayer(1, 0);
            for (int bits = 1; bits < 6; bits++) {
                y.addWay(p, bits);
            }
        }
        due("the most", y.countPlays(), 15625);
    }

    private static void rests() {
        SelfishJunction x = Junctions.pigou();
        due("three of four", x.countRests(), 3);
        due("the first: 0 then 1", x.restTotal(0), 30);
        due("the second: 1 then 0", x.restTotal(1), 30);
        due("the third: both on 1", x.restTotal(2), 40);
        Check.thrown("the fourth", ELEMENT, () -> x.restTotal(3));
        Check.thrown("-1", ELEMENT, () -> x.restTotal(-1));
        due("looking changes nothing", x.getTotal(), 40);
        x.lead(0, true);
        due("one who is led stays on 0", x.countRests(), 1);
        due("that total", x.restTotal(0), 30);
        due("none", Junctions.restless().countRests(), 0);
        Check.thrown("none", ELEMENT, () -> Junctions.restless().restTotal(0));
    }

    private static void goToRest() {
        SelfishJunction x = Junctions.pigou();
        due("one changes", x.goToRest(0), 1);
        due("the last one changes first", x.getChosen(0) * 10 + x.getChosen(1), 1);
        due("both change", x.goToRest(1), 2);
        due("the second", x.getChosen(0) * 10 + x.getChosen(1), 10);
        due("to the third", x.goToRest(2), 1);
        due("the third", x.getChosen(0) * 10 + x.getChosen(1), 11);
        due("nobody changes", x.goToRest(2), 0);
        due("loads", x.getLoad(1), 2);
        Check.thrown("the fourth", ELEMENT, () -> x.goToRest(3));
        Check.thrown("-1", ELEMENT, () -> x.goToRest(-1));
        due("nothing is changed", x.getTotal(), 40);
    }

    private static void leastTotal() {
        SelfishJunction x = Junctions.pigou();
        due("the least", x.leastTotal(), 30);
        x.close(1, true);
        due("only open ways", x.leastTotal(), 40);
        SelfishJunction y = Junctions.parallel(2, 'c', 0, 20, 'l', 10, 25);
        y.choose(0, 1);
        due("of any play, not at rest", y.leastTotal(), 40);
        y.lead(0, true);
        due("who is led stays", y.leastTotal(), 55);
        due("without players", new SelfishJunction().leastTotal(), 0);
    }

    private static void rings() {
        due("a ring", Junctions.restless().hasRing(), true);
        due("a ring elsewhere", Junctions.ringElsewhere().hasRing(), true);
        due("no ring", Junctions.braess().hasRing(), false);
        SelfishJunction x = Junctions.restless();
        x.lead(0, true);
        x.lead(1, true);
        due("who is led goes no rounds", x.hasRing(), false);
    }

    private static void longestRun() {
        due("one change", Junctions.pigou().longestRun(), 1);
        due("two changes of five", Junctions.even(5).longestRun(), 2);
        SelfishJunction x = Junctions.pigou();
        x.goToRest(2);
        due("none at rest", x.longestRun(), 0);
        Check.thrown("a ring", ARITHMETIC, () -> Junctions.restless().longestRun());
        SelfishJunction y = Junctions.ringElsewhere();
        due("a ring that is not come to", y.longestRun() >= 0, true);
        // not only changes to best ways: by the steps 3, 2, 1 it takes longer
        SelfishJunction z = new SelfishJunction();
        z.addPlayer(1, 0);
        for (int way = 0; way < 4; way++) {
            z.addResource('c', 0, 4 - way);
            z.addWay(0, 1 << way);
        }
        due("any change by which one gains", z.longestRun(), 3);
        due("the best one goes at once", z.run('r', 9), 1);
    }

    private static void thousandPlays() {
        SelfishJunction x = Junctions.thousand();
        due("rests of 1000 plays", x.countRests() > 0, true);
        due("no ring in 1000 plays", x.hasRing(), false);
        due("a run through 1000 plays", x.longestRun() > 0, true);
        due("sound with 1000 plays", x.isSound(), true);
        x.addWay(5, 2);
        due("2000 plays", x.countPlays(), 2000);
        long before = x.checksum();
        Check.thrown("countRests", OPERATION, x::countRests);
        Check.thrown("restTotal", OPERATION, () -> x.restTotal(-1));
        Check.thrown("goToRest", OPERATION, () -> x.goToRest(0));
        Check.thrown("goToRest of none", OPERATION, () -> x.goToRest(-1));
        Check.thrown("leastTotal", OPERATION, x::leastTotal);
        Check.thrown("hasRing", OPERATION, x::hasRing);
        Check.thrown("longestRun", OPERATION, x::longestRun);
        Check.thrown("isStrong", OPERATION, x::isStrong);
        Check.thrown("paradox", OPERATION, x::paradox);
        Check.thrown("costOfDisorder", OPERATION, x::costOfDisorder);
        Check.thrown("bestCase", OPERATION, x::bestCase);
        due("nothing is changed", x.checksum(), before);
        due("sound all the same", x.isSound(), true);
        x.lead(4, true);
        due("1000 plays if one is led", x.countPlays(), 1000);
        due("then they are looked at", x.leastTotal() > 0, true);
    }

    private static void isStrong() {
        SelfishJunction x = Junctions.braess();
        for (int p = 0; p < 4; p++) {
            x.choose(p, 2);
        }
        due("all on the middle road are at rest", x.isRest(), true);
        due("but together they would do better", x.isStrong(), false);
        x.lead(0, true);
        x.lead(1, true);
        x.lead(2, true);
        due("one alone does not", x.isStrong(), true);
        due("not at rest is not strong", Junctions.pigou().isStrong(), false);
        SelfishJunction y = Junctions.pigou();
        y.goToRest(0);
        due("one on each", y.isStrong(), true);
        y.goToRest(2);
        // both on 1 pay 20; whoever goes to 0 pays 20 too, not less
        due("both must pay less", y.isStrong(), true);
    }

    private static void paradox() {
        SelfishJunction x = Junctions.braess();
        due("the road whose closing helps", x.paradox(), 4);
        due("nothing is closed", x.close(4, true), false);
        Check.thrown("a closed one is none", ELEMENT, x::paradox);
        Check.thrown("no rest with it", ELEMENT, () -> Junctions.restless().paradox());
        Check.thrown("like totals", ELEMENT, () -> Junctions.pigou().paradox());
        SelfishJunction y = new SelfishJunction();
        y.addResource('c', 0, 1);
        y.addPlayer(1, 0);
        y.addWay(0, 1);
        Check.thrown("one that cannot be closed", ELEMENT, y::paradox);
        due("looking changes nothing", braessAfterLook(), Junctions.braess().checksum());
    }

    private static long braessAfterLook() {
        SelfishJunction x = Junctions.braess();
        x.paradox();
        return x.checksum();
    }

    /** One who is led on a dear way would have to leave it, as if it were closed. */
    private static void paradoxWithLed() {
        SelfishJunction x = new SelfishJunction();
        x.addResource('c', 0, 4);
        x.addResource('c', 0, 100);
        x.addPlayer(1, 0);
        x.addWay(0, 1);
        x.addWay(0, 2);
        Check.thrown("one who is not led goes by itself", ELEMENT, x::paradox);
        x.choose(0, 1);
        x.lead(0, true);
        due("the way of one who is led", x.paradox(), 1);
        due("it stays there", x.getChosen(0), 1);
    }

    private static SelfishJunction threeWays() {
        SelfishJunction x = new SelfishJunction();
        x.addPlayer(1, 0);
        int[] b = {10, 4, 7};
        for (int way = 0; way < 3; way++) {
            x.addResource('c', 0, b[way]);
            x.addWay(0, 1 << way);
        }
        return x;
    }

    private static void learn() {
        SelfishJunction x = threeWays();
        // regrets 0, 6, 3; z is 48271, modulo 9 it is 4, less than 6
        due("the total then", x.learn(1), 4);
        due("to the way 1", x.getChosen(0), 1);
        due("the greatest regret", x.getRegret(0), 6);
        // regrets -6, 6, 0; z is 182605794
        due("the total then", x.learn(1), 4);
        due("the regret stays", x.getRegret(0), 6);
        due("z is drawn twice", x.setSeed(1), 182605794);
        x = threeWays();
        x.setSeed(2);
        // 96542 modulo 9 is 8, not less than 6, but less than 9
        due("the total then", x.learn(1), 7);
        due("to the way 2", x.getChosen(0), 2);
        // regrets -3, 9, 3 by what 7 costs more than 4 and less than 10
        x.learn(1);
        due("regrets become more", x.getRegret(0), 9);
        SelfishJunction y = threeWays();
        Check.thrown("0 rounds", ARGUMENT, () -> y.learn(0));
        Check.thrown("51 rounds", ARGUMENT, () -> y.learn(51));
        due("nothing is changed", y.getTotal() * 10 + y.getRegret(0), 100);
        due("50 rounds", y.learn(50), 4);
        y.choose(0, 1);
        y.setSeed(1);
        SelfishJunction z = threeWays();
        z.choose(0, 1);
        z.learn(1);
        due("no regret, no draw", z.setSeed(1), 1);
    }

    private static void learnTogether() {
        SelfishJunction x = Junctions.even(2);
        due("both go by the costs at the beginning", x.learn(1), 40);
        due("both are on 1", x.getLoad(1), 2);
        SelfishJunction y = Junctions.even(2);
        y.lead(0, true);
        y.learn(1);
        due("who is led stays", y.getChosen(0), 0);
        due("but has a regret", y.getRegret(0), 10);
        due("and draws nothing", y.setSeed(1), 48271);
        due("the other goes", y.getChosen(1), 1);
        SelfishJunction z = Junctions.even(2);
        z.close(1, true);
        z.learn(5);
        due("closed ways are not regretted", z.getRegret(0), 0);
        due("and z is not drawn", z.setSeed(1), 1);
        z.close(1, false);
        due("nor afterwards", z.getRegret(0), 0);
    }

    private static void regret() {
        SelfishJunction x = threeWays();
        due("0 at first", x.getRegret(0), 0);
        x.learn(1);
        due("the greatest", x.getRegret(0), 6);
        x.close(1, true);
        due("only of open ways", x.getRegret(0), 3);
        x.close(1, false);
        due("it is kept", x.getRegret(0), 6);
        SelfishJunction y = threeWays();
        y.choose(0, 1);
        y.learn(9);
        due("0 at least", y.getRegret(0), 0);
        y.addPlayer(1, 1);
        due("without ways", y.getRegret(1), 0);
        Check.thrown("getRegret of 2", INDEX, () -> y.getRegret(2));
        Check.thrown("getRegret of -1", INDEX, () -> y.getRegret(-1));
    }

    private static void setSeed() {
        SelfishJunction x = Junctions.even(3);
        due("1 at first", x.setSeed(2147483646), 1);
        Check.thrown("z 0", ARGUMENT, () -> x.setSeed(0));
        Check.thrown("z -1", ARGUMENT, () -> x.setSeed(-1));
        Check.thrown("z 2147483647", ARGUMENT, () -> x.setSeed(2147483647));
        x.run('z', 1);
        due("the greatest times 48271", x.setSeed(1), 2147483647 - 48271);
    }

    private static void dueLevel(SelfishJunction x, int crowd, long above, long below) {
        due("level of " + crowd + " above", x.getLevel(crowd, false), above);
        due("level of " + crowd + " below", x.getLevel(crowd, true), below);
    }

    private static void level() {
        SelfishJunction x = new SelfishJunction();
        x.addResource('l', 2, 10);
        x.addResource('l', 3, 0);
        x.addResource('l', 0, 1);
        x.addResource('q', 1, 0);
        x.addResource('c', 1, 0);
        x.addResource('s', 1, 0);
        dueLevel(x, 3, 9, 1);
        // (L - 10) / 2 + L / 3 = 4
        dueLevel(x, 4, 54, 5);
        dueLevel(x, 5, 12, 1);
        dueLevel(x, 999, 6024, 5);
        x.addPlayer(3, 0);
        x.addWay(0, 3);
        x.setToll(0, 50);
        dueLevel(x, 4, 54, 5);
        x.addWay(0, 4);
        x.close(1, true);
        dueLevel(x, 4, 18, 1);
        SelfishJunction y = new SelfishJunction();
        for (int a = 13; a <= 20; a++) {
            y.addResource('l', a, 999 - a);
        }
        // a crowd of 1 over those with a from 15 to 20
        dueLevel(y, 1, 79263693, 80507);
        SelfishJunction z = new SelfishJunction();
        z.addResource('l', 1, 0);
        z.addResource('l', 20, 999);
        dueLevel(z, 999, 999, 1);
    }

    private static void levelWrong() {
        SelfishJunction x = new SelfishJunction();
        Check.thrown("crowd 0", ARGUMENT, () -> x.getLevel(0, true));
        Check.thrown("crowd 1000", ARGUMENT, () -> x.getLevel(1000, false));
        Check.thrown("no resource", ELEMENT, () -> x.getLevel(1, true));
        x.addResource('l', 0, 5);
        x.addResource('q', 3, 5);
        Check.thrown("none that grows", ELEMENT, () -> x.getLevel(999, false));
        x.addResource('l', 1, 5);
        due("one that grows", x.getLevel(999, false), 1004L);
        x.close(2, true);
        Check.thrown("a closed one", ELEMENT, () -> x.getLevel(999, false));
    }

    private static void quotients() {
        SelfishJunction x = Junctions.pigou();
        due("the greatest by the least", x.costOfDisorder(), 40f / 30f);
        due("the least by the least", x.bestCase(), 1.0);
        SelfishJunction y = Junctions.braess();
        due("the greatest of Braess", y.costOfDisorder(), 360f / 280f);
        due("the least of Braess", y.bestCase(), 300.0 / 280.0);
        Check.thrown("no rest", ARITHMETIC, () -> Junctions.restless().costOfDisorder());
        Check.thrown("no rest", ARITHMETIC, () -> Junctions.restless().bestCase());
        SelfishJunction z = new SelfishJunction();
        Check.thrown("a least total of 0", ARITHMETIC, z::costOfDisorder);
        Check.thrown("a least total of 0", ARITHMETIC, z::bestCase);
    }

    private static void checksum() {
        SelfishJunction x = Junctions.mixed();
        due("players, resources, z", x.checksum(), sum(0, 7, 0, 7, -1, 0, 3, 0, 0, 0, 0, 0, 0, 0, 1));
        x.setToll(0, 5);
        x.setSeed(9);
        x.choose(0, 1);
        due("tolls and z", x.checksum(), sum(1, 4, 0, 5, -1, 0, 2, 5, 1, 0, 0, 0, 0, 0, 9));
    }

    private static void isSound() {
        due("mixed", Junctions.mixed().isSound(), true);
        due("braess", Junctions.braess().isSound(), true);
        due("no rest, but no potential", Junctions.restless().isSound(), true);
        SelfishJunction x = Junctions.braess();
        x.close(4, true);
        x.learn(20);
        x.lead(2, true);
        due("after much", x.isSound(), true);
    }
}
