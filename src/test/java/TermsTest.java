/** Sentences of the document's terms, in their order, that the tests by promise and by edge leave open. */
public final class TermsTest {
    public static void main(String[] args) {
        roadIsAResource();
        gainIsNotByTheWeight();
        greatestGainOfAll();
        improvesByTheBestWay();
        eachChangeDraws();
        potentialOfWhoIsLed();
        playersChangeNotWeights();
        strongByWhatIsPaid();
        paradoxByTheGreatestAndTheLeast();
        learnersDrawByNumbers();
        learnersDrawByOpenWays();
        levelOfFewerAndFewer();
        Check.finish();
    }

    private static void due(String what, Object got, Object want) {
        Check.due(what, got, want);
    }

    /** A resource can be a road: then all that is said of resources is said of it. */
    private static void roadIsAResource() {
        SelfishJunction x = new SelfishJunction();
        x.addRoad(0, 1, 'l', 2, 0);
        x.addRoad(4, 3, 'l', 3, 0);
        x.addPlayer(2, 0);
        due("a way of roads that are no path", x.addWay(0, 3), 0);
        due("the load of a road", x.getLoad(1), 2);
        due("the cost of both", x.getCost(0), 4 + 6);
        due("a crowd on roads, above", x.getLevel(5, false), 6L);
        due("a crowd on roads, below", x.getLevel(5, true), 1L);
    }

    /** Players beside each other on the way 0, which costs 10; each has another way, of the delay told. */
    private static SelfishJunction leaving(int weight, int... delays) {
        SelfishJunction x = new SelfishJunction();
        x.addResource('c', 0, 10);
        for (int p = 0; p < delays.length; p++) {
            x.addResource('c', 0, delays[p]);
            x.addPlayer(weight, 0);
            x.addWay(p, 1);
            x.addWay(p, 2 << p);
        }
        return x;
    }

    private static void gainIsNotByTheWeight() {
        SelfishJunction x = leaving(3, 6);
        due("the greatest gain of a heavy one", x.greatestGain(), 4);
        due("what a heavy one gains", x.improve(0), 4);
        due("the total is by the weight", x.getTotal(), 18);
    }

    private static void greatestGainOfAll() {
        due("the gain of the first", leaving(1, 5, 9, 7).greatestGain(), 5);
        due("the gain of the second", leaving(1, 9, 5, 7).greatestGain(), 5);
        due("the gain of the last", leaving(1, 9, 7, 5).greatestGain(), 5);
        SelfishJunction x = leaving(1, 9, 5, 7);
        x.lead(1, true);
        due("the gain of who is not led", x.greatestGain(), 3);
    }

    private static void improvesByTheBestWay() {
        SelfishJunction x = Junctions.alone(9, 7, 3, 5);
        due("the gain by the best way", x.improve(0), 6);
        due("neither the next way nor the last", x.getChosen(0), 2);
    }

    /** Of 0 to 5 go 1, 5, 3, 2, 4 and 0: z modulo 6, then 5, 4, 3, 2 and 1, is 1, 4, 2, 1, 1 and 0. */
    private static void eachChangeDraws() {
        int[] z = {48271, 182605794, 1291394886, 1914720637, 2078669041, 407355683};
        int[] order = {1, 5, 3, 2, 4, 0};
        SelfishJunction x = Junctions.parallel(6, 'c', 0, 2, 'c', 0, 1);
        for (int change = 0; change < 6; change++) {
            due("one change", x.run('z', 1), 1);
            due("of the player " + order[change], x.getChosen(order[change]), 1);
            due("so many have changed", x.getLoad(1), change + 1);
            due("z then", x.setSeed(z[change]), z[change]);
        }
        SelfishJunction y = Junctions.parallel(6, 'c', 0, 2, 'c', 0, 1);
        due("all in one run", y.run('z', 200), 6);
        due("each drew once", y.setSeed(1), z[5]);
    }

    private static void potentialOfWhoIsLed() {
        SelfishJunction x = Junctions.pigou();
        x.setToll(0, 5);
        due("two delays and two tolls", x.getPotential(), 20 + 20 + 5 + 5);
        x.lead(0, true);
        due("the toll of who is led too", x.getPotential(), 50);
    }

    private static void playersChangeNotWeights() {
        due("one heavy player changes", leaving(3, 6).goToRest(0), 1);
        due("two heavy players change", leaving(3, 6, 6).goToRest(0), 2);
    }

    private static void strongByWhatIsPaid() {
        SelfishJunction x = Junctions.alone(3, 2);
        x.setToll(1, 1);
        due("less delay, but a toll", x.isStrong(), true);
        x.setMind(0, 0);
        due("a toll that is not minded", x.isStrong(), false);
        SelfishJunction y = Junctions.alone(2, 3);
        y.setToll(0, 2);
        due("more delay, but no toll", y.isStrong(), false);
    }

    /**
     * At rest the player 0 is on the resource 0, or, without it, on 1, which costs less but has a toll; the others
     * bring totals of 30 and of 40 to it, wherever it is.
     */
    private static SelfishJunction besidePigou(int delay) {
        SelfishJunction x = new SelfishJunction();
        x.addResource('c', 0, 50);
        x.addResource('c', 0, delay);
        x.addResource('c', 0, 20);
        x.addResource('l', 10, 0);
        x.setToll(1, 90);
        for (int p = 0; p < 3; p++) {
            x.addPlayer(1, 1);
            x.addWay(p, p == 0 ? 1 : 4);
            x.addWay(p, p == 0 ? 2 : 8);
        }
        return x;
    }

    private static void paradoxByTheGreatestAndTheLeast() {
        SelfishJunction x = besidePigou(40);
        due("the least at rest", x.restTotal(0), 80);
        due("the greatest at rest", x.restTotal(2), 90);
        Check.thrown("without it 70 to 80", Edges.ELEMENT, x::paradox);
        due("without it 69 to 79", besidePigou(39).paradox(), 0);
        SelfishJunction y = besidePigou(39);
        y.close(0, true);
        due("the greatest without it", y.restTotal(2), 79);
    }

    /** The regrets of both are 0, 6 and 3, together 9; z modulo 9 is 4 first, then 6. */
    private static void learnersDrawByNumbers() {
        SelfishJunction x = Junctions.alone(10, 4, 7);
        x.addPlayer(1, 1);
        for (int way = 0; way < 3; way++) {
            x.addWay(1, 1 << way);
        }
        x.learn(1);
        due("the player 0 draws first", x.getChosen(0), 1);
        due("the player 1 draws then", x.getChosen(1), 2);
    }

    /** Of the closed way 1 the regret is 6, of the open way 2 it becomes 6; 96542 modulo 12 is 2, modulo 6 too. */
    private static void learnersDrawByOpenWays() {
        SelfishJunction x = Junctions.alone(10, 4, 7);
        x.lead(0, true);
        x.learn(1);
        x.lead(0, false);
        x.close(1, true);
        x.setSeed(2);
        due("the total on the open way", x.learn(1), 7);
        due("it goes past the closed way", x.getChosen(0), 2);
        due("z is drawn", x.setSeed(1), 96542);
    }

    /** Each level over too many is just enough for all but the dearest of them. */
    private static void levelOfFewerAndFewer() {
        SelfishJunction x = new SelfishJunction();
        for (int b : new int[] {200, 0, 40, 2, 10, 4}) {
            x.addResource('l', 1, b);
        }
        dueLevel(x, 1, 1, 1);
        dueLevel(x, 3, 5, 2);
        dueLevel(x, 7, 13, 3);
        dueLevel(x, 100, 29, 1);
        dueLevel(x, 200, 256, 5);
        dueLevel(x, 999, 1255, 6);
    }

    private static void dueLevel(SelfishJunction x, int crowd, long above, long below) {
        due("the level of " + crowd + ", above", x.getLevel(crowd, false), above);
        due("the level of " + crowd + ", below", x.getLevel(crowd, true), below);
    }
}
