/** The edges that the document names for the promises 37 to 40 and 43: learning, regrets, z, levels, the checksum. */
public final class EdgesOfLearningTest {
    private static final int MODULUS = 2147483647;

    public static void main(String[] args) {
        learnRange();
        learnWithNobody();
        roundsAreOneByOne();
        drawsBetweenTheRegrets();
        drawsOfTheFirstAndTheLastWay();
        drawGoesRound();
        noRegretNoDraw();
        onlyRegretIsClosed();
        learnWithLed();
        learnByTheCostsAtTheBeginning();
        regretRange();
        regretIsNotBelowNothing();
        regretOfOpenWays();
        regretOfANewWay();
        regretBeyondAllNumbers();
        seedRange();
        seedBefore();
        levelRange();
        levelOfNothing();
        firstExceptionOfALevel();
        levelOfOne();
        levelOfOneKind();
        levelOfOpenOnes();
        levelAtTheEdgeOfUse();
        levelIsReduced();
        checksumOfNothing();
        checksumWithoutWays();
        checksumGoesRound();
        Check.finish();
    }

    private static void learnRange() {
        Edges.range("rounds", Edges.ARGUMENT, Junctions::full, 1, 50, (x, rounds) -> x.learn(rounds));
        Edges.outside("rounds of nobody", Edges.ARGUMENT, SelfishJunction::new, 1, 50,
            (x, rounds) -> x.learn(rounds));
    }

    private static void learnWithNobody() {
        Edges.due("nobody", new SelfishJunction().learn(50), 0);
        SelfishJunction x = Junctions.free(8);
        x.addPlayer(3, 9);
        Edges.due("one without ways", x.learn(50), 0);
        Edges.due("z is not drawn", x.setSeed(1), 1);
        Edges.due("one with a single way", Junctions.alone(999).learn(50), 999);
    }

    private static void roundsAreOneByOne() {
        SelfishJunction x = Junctions.even(6);
        SelfishJunction y = Junctions.even(6);
        int total = 0;
        for (int round = 0; round < 50; round++) {
            total = x.learn(1);
        }
        Edges.due("fifty rounds, and fifty times one", y.learn(50), total);
        Edges.due("all the same", Edges.look(y), Edges.look(x));
    }

    /** The regrets are 0, 6 and 3, together 9; z modulo 9 is four times the seed modulo 9. */
    private static void dueWay(int seed, int modulo, int way) {
        SelfishJunction x = Junctions.alone(10, 4, 7);
        x.setSeed(seed);
        x.learn(1);
        int z = x.setSeed(1);
        Edges.due("z by " + seed, z, 48271 * seed);
        Edges.due("z by " + seed + " modulo 9", z % 9, modulo);
        Edges.due("the way by " + modulo, x.getChosen(0), way);
    }

    private static void drawsBetweenTheRegrets() {
        dueWay(9, 0, 1);
        dueWay(8, 5, 1);
        dueWay(6, 6, 2);
        dueWay(2, 8, 2);
    }

    /** From the way 1 of three the regrets are 6, 0 and 3. */
    private static void dueWayFromTheMiddle(int seed, int modulo, int way) {
        SelfishJunction x = Junctions.alone(4, 10, 7);
        x.choose(0, 1);
        x.setSeed(seed);
        x.learn(1);
        Edges.due("z modulo 9", x.setSeed(1) % 9, modulo);
        Edges.due("from the middle by " + modulo, x.getChosen(0), way);
    }

    private static void drawsOfTheFirstAndTheLastWay() {
        dueWayFromTheMiddle(9, 0, 0);
        dueWayFromTheMiddle(8, 5, 0);
        dueWayFromTheMiddle(6, 6, 2);
        dueWayFromTheMiddle(2, 8, 2);
    }

    private static void drawGoesRound() {
        SelfishJunction x = Junctions.alone(10, 4, 7);
        x.setSeed(MODULUS - 1);
        x.learn(1);
        // 2147435376 modulo 9 is 6
        Edges.due("the way by 6", x.getChosen(0), 2);
        Edges.due("the greatest z goes round", x.setSeed(1), MODULUS - 48271);
    }

    private static void noRegretNoDraw() {
        SelfishJunction x = Junctions.alone(4, 4, 5);
        Edges.due("no regret above 0", x.learn(50), 4);
        Edges.due("it stays", x.getChosen(0), 0);
        Edges.due("z is not drawn", x.setSeed(1), 1);
        SelfishJunction y = Junctions.alone(5, 4);
        y.learn(1);
        Edges.due("the least regret", y.getRegret(0), 1);
        Edges.due("z is drawn", y.setSeed(1), 48271);
    }

    private static void onlyRegretIsClosed() {
        SelfishJunction x = Junctions.alone(5, 4, 6);
        x.learn(1);
        Edges.due("it has gone", x.getChosen(0), 1);
        x.close(1, true);
        Edges.due("the lowest open way", x.getChosen(0), 0);
        x.setSeed(1);
        x.learn(1);
        Edges.due("no regret of an open way, no draw", x.setSeed(1), 1);
        Edges.due("it stays", x.getChosen(0), 0);
        x.close(1, false);
        Edges.due("the regret of the closed way is as it was", x.getRegret(0), 1);
    }

    private static void learnWithLed() {
        SelfishJunction x = Junctions.alone(5, 4);
        x.lead(0, true);
        Edges.due("who is led stays", x.learn(50), 5);
        Edges.due("its regret grows by each round", x.getRegret(0), 50);
        Edges.due("z is not drawn", x.setSeed(1), 1);
        x.lead(0, false);
        x.learn(1);
        Edges.due("led no more, it goes", x.getChosen(0), 1);
        Edges.due("and draws", x.setSeed(1), 48271);
    }

    private static void learnByTheCostsAtTheBeginning() {
        SelfishJunction x = Junctions.even(3);
        Edges.due("all three go", x.learn(1), 90);
        Edges.due("to the way 1", x.getLoad(1), 3);
        for (int p = 0; p < 3; p++) {
            Edges.due("the regret of " + p, x.getRegret(p), 20);
        }
        Edges.due("each draws once", x.setSeed(1), drawn(3));
    }

    private static int drawn(int times) {
        long z = 1;
        for (int time = 0; time < times; time++) {
            z = z * 48271 % MODULUS;
        }
        return (int) z;
    }

    private static void regretRange() {
        Edges.playerRange("getRegret", (x, player) -> x.getRegret(player));
        SelfishJunction x = new SelfishJunction();
        x.addPlayer(1, 0);
        Edges.due("without ways", x.getRegret(0), 0);
        Edges.due("0 at first", Junctions.alone(9, 1).getRegret(0), 0);
    }

    private static void regretIsNotBelowNothing() {
        SelfishJunction x = Junctions.alone(1, 9, 5);
        x.learn(1);
        Edges.due("0 at least", x.getRegret(0), 0);
        x.choose(0, 2);
        x.learn(1);
        // of the way 0 it is 0 and 4, of 1 it is -8 and -4, of 2 it is -4 and 0
        Edges.due("the greatest", x.getRegret(0), 4);
        x.choose(0, 1);
        x.lead(0, true);
        x.learn(1);
        Edges.due("more", x.getRegret(0), 12);
        x.close(0, true);
        // of 1 it is -12, of 2 it is -4 and 4
        Edges.due("less than 0 was kept", x.getRegret(0), 0);
        x.learn(1);
        Edges.due("and becomes more", x.getRegret(0), 4);
    }

    private static void regretOfOpenWays() {
        SelfishJunction x = Junctions.alone(9, 1, 5);
        x.lead(0, true);
        x.learn(1);
        Edges.due("the greatest", x.getRegret(0), 8);
        x.close(1, true);
        Edges.due("of open ways", x.getRegret(0), 4);
        x.close(2, true);
        Edges.due("of the own way alone", x.getRegret(0), 0);
        x.learn(10);
        x.close(1, false);
        x.close(2, false);
        Edges.due("closed ways are not regretted", x.getRegret(0), 8);
    }

    private static void regretOfANewWay() {
        SelfishJunction x = Junctions.alone(9, 8);
        x.addResource('c', 0, 2);
        x.lead(0, true);
        x.learn(3);
        x.addWay(0, 4);
        Edges.due("0 at first", x.getRegret(0), 3);
        x.learn(1);
        Edges.due("then it grows", x.getRegret(0), 7);
    }

    /** One who is led pays 9 * 9999 more than by the way 1, for eighty times fifty rounds and for seven resources. */
    private static void regretBeyondAllNumbers() {
        SelfishJunction x = Junctions.free(8);
        x.addPlayer(3, 9);
        x.addWay(0, 127);
        x.addWay(0, 128);
        x.lead(0, true);
        for (int r = 0; r < 7; r++) {
            x.setToll(r, 9999);
        }
        long regret = 0;
        for (int call = 0; call < 80; call++) {
            x.learn(50);
            regret += 50L * 7 * 9 * 9999;
            Edges.due("the regret by " + call, x.getRegret(0), (int) Math.min(MODULUS, regret));
        }
        x.lead(0, false);
        x.learn(1);
        Edges.due("it goes all the same", x.getChosen(0), 1);
        Edges.due("and draws once", x.setSeed(1), 48271);
    }

    private static void seedRange() {
        Edges.range("z", Edges.ARGUMENT, Junctions::full, 1, MODULUS - 1, (x, z) -> x.setSeed(z));
    }

    private static void seedBefore() {
        SelfishJunction x = new SelfishJunction();
        Edges.due("1 at first", x.setSeed(MODULUS - 1), 1);
        Check.thrown("too great", Edges.ARGUMENT, () -> x.setSeed(MODULUS));
        Edges.due("the greatest", x.setSeed(1), MODULUS - 1);
        Check.thrown("too small", Edges.ARGUMENT, () -> x.setSeed(0));
        Edges.due("the least", x.setSeed(7), 1);
    }

    private static SelfishJunction even(int a, int b) {
        SelfishJunction x = new SelfishJunction();
        x.addResource('l', a, b);
        return x;
    }

    private static void levelRange() {
        Edges.range("crowd above", Edges.ARGUMENT, Junctions::full, 1, 999, (x, crowd) -> x.getLevel(crowd, false));
        Edges.range("crowd below", Edges.ARGUMENT, Junctions::full, 1, 999, (x, crowd) -> x.getLevel(crowd, true));
    }

    private static SelfishJunction nothingThatGrowsEvenly() {
        SelfishJunction x = even(0, 999);
        for (char kind : "cqs".toCharArray()) {
            x.addResource(kind, 20, 0);
        }
        x.addResource('l', 1, 0);
        x.close(4, true);
        return x;
    }

    private static void levelOfNothing() {
        for (boolean isBelow : new boolean[] {true, false}) {
            Edges.refused("no resource", Edges.ELEMENT, SelfishJunction::new, x -> x.getLevel(1, isBelow));
            Edges.refused("other kinds, a of 0, closed", Edges.ELEMENT,
                EdgesOfLearningTest::nothingThatGrowsEvenly, x -> x.getLevel(999, isBelow));
        }
        SelfishJunction x = nothingThatGrowsEvenly();
        x.close(4, false);
        dueLevel("opened again", x, 999, 999, 1);
    }

    private static void firstExceptionOfALevel() {
        Edges.outside("a crowd on nothing", Edges.ARGUMENT, SelfishJunction::new, 1, 999,
            (x, crowd) -> x.getLevel(crowd, false));
        Edges.outside("a crowd on what does not grow", Edges.ARGUMENT, EdgesOfLearningTest::nothingThatGrowsEvenly,
            1, 999, (x, crowd) -> x.getLevel(crowd, true));
    }

    private static void dueLevel(String what, SelfishJunction x, int crowd, long above, long below) {
        Edges.due(what + ", above", x.getLevel(crowd, false), above);
        Edges.due(what + ", below", x.getLevel(crowd, true), below);
    }

    private static void levelOfOne() {
        dueLevel("the least", even(1, 0), 1, 1, 1);
        dueLevel("the least crowd on the steepest", even(20, 999), 1, 1019, 1);
        dueLevel("the greatest crowd on the flattest", even(1, 0), 999, 999, 1);
        dueLevel("the greatest", even(20, 999), 999, 20979, 1);
    }

    private static void levelOfOneKind() {
        SelfishJunction x = even(2, 10);
        x.addResource('l', 0, 1);
        x.addResource('c', 1, 0);
        x.addResource('q', 1, 0);
        x.addResource('s', 1, 0);
        dueLevel("the only one that counts", x, 5, 20, 1);
    }

    private static void levelOfOpenOnes() {
        SelfishJunction x = even(1, 0);
        x.addResource('l', 1, 0);
        dueLevel("both", x, 999, 999, 2);
        x.close(0, true);
        dueLevel("the open one", x, 999, 999, 1);
        x.close(0, false);
        dueLevel("both again", x, 999, 999, 2);
        SelfishJunction y = Junctions.even(6);
        dueLevel("players are no matter", y, 2, 10, 1);
    }

    private static void levelAtTheEdgeOfUse() {
        SelfishJunction x = even(1, 0);
        x.addResource('l', 1, 10);
        dueLevel("one less than the delay of the other", x, 9, 9, 1);
        dueLevel("as much as the delay of the other", x, 10, 10, 1);
        dueLevel("one more: both are used", x, 11, 21, 2);
        SelfishJunction y = even(20, 0);
        y.addResource('l', 20, 999);
        y.addResource('l', 1, 999);
        dueLevel("just below 999", y, 49, 980, 1);
        // all three: (20 * 50 + 999 + 20 * 999) / 22
        dueLevel("just above 999", y, 50, 21979, 22);
    }

    private static void levelIsReduced() {
        SelfishJunction x = even(2, 0);
        x.addResource('l', 2, 0);
        dueLevel("a whole number", x, 4, 4, 1);
        SelfishJunction y = even(3, 1);
        y.addResource('l', 6, 1);
        // (6 * 1 + 2 * 1 + 1 * 1) / 3
        dueLevel("nine thirds", y, 1, 3, 1);
        SelfishJunction z = even(1, 0);
        for (int r = 1; r < 8; r++) {
            z.addResource('l', 1, 0);
        }
        dueLevel("an eighth", z, 1, 1, 8);
        dueLevel("eight eighths", z, 8, 1, 1);
        dueLevel("999 eighths", z, 999, 999, 8);
        dueLevel("998 eighths", z, 998, 499, 4);
    }

    private static void checksumOfNothing() {
        Edges.due("7 at first, then z", new SelfishJunction().checksum(), 31L * 7 + 1);
        SelfishJunction x = new SelfishJunction();
        x.setSeed(MODULUS - 1);
        Edges.due("the greatest z", x.checksum(), 31L * 7 + MODULUS - 1);
    }

    private static void checksumWithoutWays() {
        SelfishJunction x = new SelfishJunction();
        x.addPlayer(3, 9);
        Edges.due("one without ways", x.checksum(), 31L * (31L * (31L * 7 - 1)) + 1);
        SelfishJunction y = new SelfishJunction();
        y.addResource('q', 20, 999);
        y.setToll(0, 9999);
        Edges.due("a resource without a load", y.checksum(), 31L * (31L * (31L * 7) + 9999) + 1);
    }

    private static void checksumGoesRound() {
        SelfishJunction x = Junctions.full();
        x.tollByMargins();
        x.setSeed(12345);
        long sum = 7;
        for (int p = 0; p < 6; p++) {
            sum = (sum * 31 + x.getChosen(p)) * 31 + x.getCost(p);
        }
        for (int r = 0; r < 8; r++) {
            int toll = x.setToll(r, 0);
            x.setToll(r, toll);
            sum = (sum * 31 + x.getLoad(r)) * 31 + toll;
        }
        Edges.due("of all places", x.checksum(), sum * 31 + 12345);
    }
}
