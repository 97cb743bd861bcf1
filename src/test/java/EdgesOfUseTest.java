/** The edges that the document names for the promises 7 to 27: ways, loads, costs, tolls, closing, changes. */
public final class EdgesOfUseTest {
    public static void main(String[] args) {
        countWays();
        getWay();
        chooseRanges();
        chooseAClosedWay();
        choosePutsTheWeight();
        getChosen();
        getLoad();
        delayRanges();
        delayByNoLoad();
        delayByTheGreatestLoad();
        delayRoundedUp();
        delayOfLeastNumbers();
        getCost();
        costOf();
        greatestCost();
        totals();
        tollRange();
        tollBefore();
        marginRange();
        marginByLoads();
        marginOfEachKind();
        tollsOfNothing();
        tollsAtMost();
        tollsByTheLoadsOfNow();
        mindRange();
        leadRange();
        closeRange();
        closeWithoutWays();
        closeTheLastWay();
        closeTwice();
        closeMovesToTheLowest();
        openMovesNobody();
        bestWayRange();
        bestWayOfLikeOnes();
        bestWayIsOpen();
        improveRange();
        improveByNothing();
        restAndGain();
        runRules();
        runMost();
        runAtRest();
        runGoesRound();
        runOfTheOnlyOne();
        potential();
        potentialRefused();
        greatestPotential();
        Check.finish();
    }

    private static void countWays() {
        Edges.playerRange("countWays", (x, player) -> x.countWays(player));
        SelfishJunction x = Junctions.alone(1, 2, 3, 4, 5);
        x.addPlayer(1, 0);
        Edges.due("all five", x.countWays(0), 5);
        Edges.due("none", x.countWays(1), 0);
        x.close(4, true);
        Edges.due("a closed one counts", x.countWays(0), 5);
    }

    private static void getWay() {
        Edges.playerRange("getWay", (x, player) -> x.getWay(player, 0));
        Edges.wayRange("getWay", (x, way) -> x.getWay(0, way));
        SelfishJunction x = Junctions.full();
        Edges.due("the first way of the first", x.getWay(0, 0), 1);
        Edges.due("the last way of the last", x.getWay(5, 4), 128);
        x.close(7, true);
        Edges.due("a closed one", x.getWay(5, 4), 128);
        SelfishJunction y = Junctions.free(8);
        y.addPlayer(1, 0);
        y.addWay(0, 255);
        Edges.due("all resources", y.getWay(0, 0), 255);
    }

    private static void chooseRanges() {
        Edges.playerRange("choose", (x, player) -> x.choose(player, 1));
        Edges.wayRange("choose", (x, way) -> x.choose(0, way));
    }

    private static SelfishJunction fullWithClosed() {
        SelfishJunction x = Junctions.full();
        x.close(1, true);
        return x;
    }

    private static void chooseAClosedWay() {
        Edges.refused("a closed way", Edges.OPERATION, EdgesOfUseTest::fullWithClosed, x -> x.choose(0, 1));
        Edges.refused("nobody's way", Edges.INDEX, EdgesOfUseTest::fullWithClosed, x -> x.choose(6, 1));
        Edges.refused("no way, where one is closed", Edges.INDEX, EdgesOfUseTest::fullWithClosed,
            x -> x.choose(0, 5));
        Edges.taken("an open way", EdgesOfUseTest::fullWithClosed, x -> x.choose(0, 2));
        SelfishJunction x = fullWithClosed();
        x.close(1, false);
        Edges.due("opened again", x.choose(0, 1), 0);
    }

    private static void choosePutsTheWeight() {
        SelfishJunction x = Junctions.free(2);
        x.addPlayer(3, 0);
        x.addWay(0, 1);
        x.addWay(0, 3);
        Edges.due("the one before", x.choose(0, 1), 0);
        Edges.due("what both ways have", x.getLoad(0), 3);
        Edges.due("what the new one has", x.getLoad(1), 3);
        Edges.due("the same again", x.choose(0, 1), 1);
        Edges.due("not twice", x.getLoad(0) + x.getLoad(1), 6);
        Edges.due("back", x.choose(0, 0), 1);
        Edges.due("what it left", x.getLoad(1), 0);
    }

    private static void getChosen() {
        Edges.playerRange("getChosen", (x, player) -> x.getChosen(player));
        SelfishJunction x = Junctions.full();
        Edges.due("the first way", x.getChosen(5), 0);
        x.choose(5, 4);
        Edges.due("the last way", x.getChosen(5), 4);
        Edges.due("-1 without ways", wayless().getChosen(0), -1);
    }

    private static void getLoad() {
        Edges.resourceRange("getLoad", (x, resource) -> x.getLoad(resource));
        SelfishJunction x = allOnAll(3, 0);
        Edges.due("the greatest load of the first", x.getLoad(0), 18);
        Edges.due("the greatest load of the last", x.getLoad(7), 18);
        SelfishJunction y = Junctions.free(1);
        y.addPlayer(3, 0);
        Edges.due("nobody on it", y.getLoad(0), 0);
        y.addWay(0, 1);
        Edges.due("one on it", y.getLoad(0), 3);
    }

    /** Six players, each on all of eight resources whose delay grows most. */
    private static SelfishJunction allOnAll(int weight, int mind) {
        SelfishJunction x = new SelfishJunction();
        for (int r = 0; r < 8; r++) {
            x.addResource('q', 20, 999);
        }
        for (int p = 0; p < 6; p++) {
            x.addPlayer(weight, mind);
            x.addWay(p, 255);
        }
        return x;
    }

    private static void delayRanges() {
        Edges.resourceRange("getDelay", (x, resource) -> x.getDelay(resource, 1));
        Edges.range("getDelay by", Edges.ARGUMENT, Junctions::full, 0, 18, (x, load) -> x.getDelay(7, load));
        Edges.outside("getDelay of nothing by", Edges.INDEX, Junctions::full, 0, 18,
            (x, load) -> x.getDelay(8, load));
        Edges.outside("getDelay of -1 by", Edges.INDEX, Junctions::full, 0, 18, (x, load) -> x.getDelay(-1, load));
    }

    private static SelfishJunction eachKind(int a, int b) {
        SelfishJunction x = new SelfishJunction();
        for (char kind : "clqs".toCharArray()) {
            x.addResource(kind, a, b);
        }
        return x;
    }

    private static void dueDelays(String what, SelfishJunction x, int load, int c, int l, int q, int s) {
        Edges.due("c " + what, x.getDelay(0, load), c);
        Edges.due("l " + what, x.getDelay(1, load), l);
        Edges.due("q " + what, x.getDelay(2, load), q);
        Edges.due("s " + what, x.getDelay(3, load), s);
    }

    private static void delayByNoLoad() {
        dueDelays("by no load, with great numbers", eachKind(20, 999), 0, 0, 0, 0, 0);
        dueDelays("by no load, with none", eachKind(0, 0), 0, 0, 0, 0, 0);
        dueDelays("by the least load, with great numbers", eachKind(20, 999), 1, 999, 1019, 1019, 2999);
    }

    private static void delayByTheGreatestLoad() {
        dueDelays("by 18, with great numbers", eachKind(20, 999), 18, 999, 1359, 7479, 999 + 112);
        dueDelays("by 17, with great numbers", eachKind(20, 999), 17, 999, 1339, 6779, 999 + 118);
        dueDelays("by 18, with a of 1", eachKind(1, 0), 18, 0, 18, 324, 6);
    }

    private static void delayRoundedUp() {
        SelfishJunction x = new SelfishJunction();
        x.addResource('s', 1, 0);
        int[] due = {0, 100, 50, 34, 25, 20, 17, 15, 13, 12, 10, 10, 9, 8, 8, 7, 7, 6, 6};
        for (int load = 0; load <= 18; load++) {
            Edges.due("100 divided by " + load, x.getDelay(0, load), due[load]);
        }
    }

    private static void delayOfLeastNumbers() {
        for (int load = 1; load <= 18; load++) {
            dueDelays("with nothing, by " + load, eachKind(0, 0), load, 0, 0, 0, 0);
            dueDelays("with b alone, by " + load, eachKind(0, 7), load, 7, 7, 7, 7);
        }
    }

    private static void getCost() {
        Edges.playerRange("getCost", (x, player) -> x.getCost(player));
        SelfishJunction x = Junctions.alone(999);
        x.addPlayer(1, 9);
        x.setToll(0, 9999);
        Edges.due("with a toll", x.getCost(0), 999 + 9999);
        Edges.due("0 without ways", x.getCost(1), 0);
        x.setMind(0, 0);
        Edges.due("a toll that nobody minds", x.getCost(0), 999);
    }

    private static void costOf() {
        Edges.playerRange("costOf", (x, player) -> x.costOf(player, 0));
        Edges.wayRange("costOf", (x, way) -> x.costOf(0, way));
        SelfishJunction x = Junctions.even(6);
        Edges.due("its own way", x.costOf(5, 0), 60);
        Edges.due("an empty way", x.costOf(5, 1), 10);
        Edges.due("asking changes nothing", x.getLoad(1), 0);
    }

    private static void greatestCost() {
        SelfishJunction x = allOnAll(3, 9);
        for (int r = 0; r < 8; r++) {
            x.setToll(r, 9999);
        }
        Edges.due("the greatest cost", x.getCost(5), 8 * 7479 + 8 * 9 * 9999);
        Edges.due("the greatest cost of its way", x.costOf(5, 0), 8 * 7479 + 8 * 9 * 9999);
        Edges.due("the greatest total, tolls aside", x.getTotal(), 18 * 8 * 7479);
    }

    private static void totals() {
        Edges.due("the total of nobody", Junctions.free(8).getTotal(), 0);
        SelfishJunction x = Junctions.free(1);
        x.addPlayer(3, 9);
        Edges.due("the total of one without ways", x.getTotal(), 0);
        Edges.due("by the weight", twoOnOne().getTotal(), 3 * 7 + 1 * 7);
    }

    private static SelfishJunction twoOnOne() {
        SelfishJunction x = new SelfishJunction();
        x.addResource('c', 20, 7);
        x.addPlayer(3, 0);
        x.addPlayer(1, 0);
        x.addWay(0, 1);
        x.addWay(1, 1);
        return x;
    }

    private static void tollRange() {
        Edges.resourceRange("setToll", (x, resource) -> x.setToll(resource, 1));
        Edges.range("toll", Edges.ARGUMENT, Junctions::full, 0, 9999, (x, toll) -> x.setToll(7, toll));
        Edges.outside("nothing's toll", Edges.INDEX, Junctions::full, 0, 9999, (x, toll) -> x.setToll(8, toll));
        Edges.outside("the toll of -1", Edges.INDEX, Junctions::full, 0, 9999, (x, toll) -> x.setToll(-1, toll));
    }

    private static void tollBefore() {
        SelfishJunction x = Junctions.full();
        Edges.due("none at first", x.setToll(7, 9999), 0);
        Check.thrown("too great", Edges.ARGUMENT, () -> x.setToll(7, 10000));
        Edges.due("the greatest", x.setToll(7, 0), 9999);
        Check.thrown("too small", Edges.ARGUMENT, () -> x.setToll(7, -1));
        Edges.due("the least", x.setToll(7, 1), 0);
        Edges.due("of another one", x.setToll(6, 1), 0);
    }

    private static void marginRange() {
        Edges.resourceRange("getMargin", (x, resource) -> x.getMargin(resource));
    }

    /** A resource with the load told, of six players at most. */
    private static SelfishJunction loaded(char kind, int a, int b, int load) {
        SelfishJunction x = new SelfishJunction();
        x.addResource(kind, a, b);
        int left = load;
        for (int p = 0; left > 0; p++) {
            int weight = Math.min(3, left);
            x.addPlayer(weight, 0);
            x.addWay(p, 1);
            left -= weight;
        }
        return x;
    }

    private static void marginByLoads() {
        int[] due = {0, 0, 60, 200, 420};
        for (int load = 0; load < due.length; load++) {
            Edges.due("q by " + load, loaded('q', 20, 999, load).getMargin(0), due[load]);
        }
        Edges.due("q by 17", loaded('q', 20, 999, 17).getMargin(0), 16 * 20 * 33);
        Edges.due("q by 18", loaded('q', 20, 999, 18).getMargin(0), 17 * 20 * 35);
    }

    private static void marginOfEachKind() {
        for (int load = 0; load <= 18; load++) {
            Edges.due("c by " + load, loaded('c', 20, 999, load).getMargin(0), 0);
            Edges.due("s by " + load, loaded('s', 20, 999, load).getMargin(0), 0);
            Edges.due("l by " + load, loaded('l', 20, 999, load).getMargin(0), load == 0 ? 0 : (load - 1) * 20);
            Edges.due("l, a of 0, by " + load, loaded('l', 0, 999, load).getMargin(0), 0);
        }
    }

    private static void tollsOfNothing() {
        Edges.due("no resources", new SelfishJunction().tollByMargins(), 0);
        SelfishJunction x = Junctions.free(8);
        x.setToll(7, 9999);
        Edges.due("no loads", x.tollByMargins(), 0);
        Edges.due("the toll is taken away", x.setToll(7, 0), 0);
    }

    private static void dueTollByMargin(int a, int load, int due) {
        SelfishJunction x = loaded('q', a, 0, load);
        Edges.due("the sum, a of " + a + " by " + load, x.tollByMargins(), due);
        Edges.due("the toll, a of " + a + " by " + load, x.setToll(0, 0), due);
    }

    private static void tollsAtMost() {
        dueTollByMargin(16, 18, 9520);
        dueTollByMargin(17, 18, 9999);
        dueTollByMargin(18, 17, 9504);
        dueTollByMargin(19, 17, 9999);
        Edges.due("a margin of more than 9999", loaded('q', 17, 0, 18).getMargin(0), 10115);
        Edges.due("the sum is of tolls, not of margins", allOnAll(3, 0).tollByMargins(), 8 * 9999);
    }

    private static void tollsByTheLoadsOfNow() {
        SelfishJunction x = Junctions.pigou();
        x.choose(0, 1);
        x.choose(1, 1);
        Edges.due("two on it", x.tollByMargins(), 10);
        x.choose(0, 0);
        Edges.due("the toll stays", x.getCost(1), 20);
        Edges.due("one on each", x.tollByMargins(), 0);
        Edges.due("no toll now", x.getCost(1), 10);
        x.close(1, true);
        x.setToll(1, 5);
        Edges.due("a closed one", x.tollByMargins(), 0);
        Edges.due("has no toll", x.setToll(1, 0), 0);
    }

    private static void mindRange() {
        Edges.playerRange("setMind", (x, player) -> x.setMind(player, 1));
        Edges.range("mind", Edges.ARGUMENT, Junctions::full, 0, 9, (x, mind) -> x.setMind(5, mind));
        Edges.outside("nobody's mind", Edges.INDEX, Junctions::full, 0, 9, (x, mind) -> x.setMind(6, mind));
        Edges.outside("the mind of -1", Edges.INDEX, Junctions::full, 0, 9, (x, mind) -> x.setMind(-1, mind));
        SelfishJunction x = Junctions.full();
        Edges.due("the greatest at first", x.setMind(5, 0), 9);
        Check.thrown("too small", Edges.ARGUMENT, () -> x.setMind(5, -1));
        Edges.due("the least", x.setMind(5, 9), 0);
        Check.thrown("too great", Edges.ARGUMENT, () -> x.setMind(5, 10));
        Edges.due("the greatest", x.setMind(5, 1), 9);
    }

    private static void leadRange() {
        Edges.playerRange("lead", (x, player) -> x.lead(player, true));
        Edges.playerRange("lead no more", (x, player) -> x.lead(player, false));
        SelfishJunction x = Junctions.full();
        Edges.due("not led at first", x.lead(5, true), false);
        Edges.due("another one is not", x.lead(4, false), false);
        Edges.due("led", x.lead(5, false), true);
        Edges.due("no more", x.lead(5, false), false);
    }

    private static void closeRange() {
        Edges.resourceRange("close", (x, resource) -> x.close(resource, true));
        Edges.resourceRange("open", (x, resource) -> x.close(resource, false));
    }

    private static void closeWithoutWays() {
        SelfishJunction x = Junctions.free(8);
        x.addPlayer(1, 0);
        for (int r = 0; r < 8; r++) {
            Edges.due("nobody needs " + r, x.close(r, true), false);
        }
        Check.thrown("then there is no way", Edges.OPERATION, () -> x.addWay(0, 255));
        Edges.due("no plays are lost", x.countPlays(), 1);
    }

    private static SelfishJunction oneWayIsLeft() {
        SelfishJunction x = Junctions.alone(1, 2, 3);
        x.addPlayer(2, 0);
        x.addWay(1, 3);
        x.addWay(1, 5);
        x.addWay(1, 6);
        x.lead(1, true);
        x.close(2, true);
        return x;
    }

    private static void closeTheLastWay() {
        Edges.refused("the only way of a led one", Edges.OPERATION, EdgesOfUseTest::oneWayIsLeft,
            x -> x.close(0, true));
        Edges.refused("a part of the only way", Edges.OPERATION, EdgesOfUseTest::oneWayIsLeft,
            x -> x.close(1, true));
        Edges.refused("the only way of all", Edges.OPERATION, () -> Junctions.alone(5), x -> x.close(0, true));
        Edges.taken("opening is never refused", EdgesOfUseTest::oneWayIsLeft, x -> x.close(0, false));
        SelfishJunction x = Junctions.alone(1, 2, 3, 4, 5);
        for (int r = 0; r < 4; r++) {
            Edges.due("four of five", x.close(r, true), false);
            Edges.due("the lowest that is open", x.getChosen(0), r + 1);
        }
        Check.thrown("the fifth", Edges.OPERATION, () -> x.close(4, true));
        Edges.due("the fifth is open", x.close(4, false), false);
    }

    private static void closeTwice() {
        SelfishJunction x = oneWayIsLeft();
        String before = Edges.look(x);
        Edges.due("closed already", x.close(2, true), true);
        Edges.due("nothing is changed", Edges.look(x), before);
        Edges.due("opened", x.close(2, false), true);
        Edges.due("open already", x.close(2, false), false);
    }

    private static void closeMovesToTheLowest() {
        SelfishJunction x = Junctions.alone(9, 5, 1, 5);
        x.addPlayer(3, 0);
        x.addWay(1, 1);
        x.addWay(1, 8);
        x.lead(1, true);
        x.choose(0, 1);
        x.choose(1, 1);
        x.close(1, true);
        Edges.due("to the lowest, not to the best", x.getChosen(0), 0);
        Edges.due("who is not on it stays", x.getChosen(1), 1);
        x.close(3, true);
        Edges.due("who is led goes too", x.getChosen(1), 0);
        Edges.due("with its weight", x.getLoad(0), 4);
        Edges.due("off the closed one", x.getLoad(3), 0);
    }

    private static void openMovesNobody() {
        SelfishJunction x = Junctions.alone(1, 9);
        x.close(0, true);
        x.close(0, false);
        Edges.due("it stays", x.getChosen(0), 1);
        Edges.due("though it would gain", x.greatestGain(), 8);
    }

    private static void bestWayRange() {
        Edges.playerRange("bestWay", (x, player) -> x.bestWay(player));
        Edges.refused("one without ways", Edges.ELEMENT, EdgesOfUseTest::wayless, x -> x.bestWay(0));
        Edges.refused("nobody beside one without ways", Edges.INDEX, EdgesOfUseTest::wayless, x -> x.bestWay(1));
        Edges.due("the only way", Junctions.alone(999).bestWay(0), 0);
        Edges.due("the last of five", Junctions.alone(5, 4, 3, 2, 1).bestWay(0), 4);
    }

    private static SelfishJunction wayless() {
        SelfishJunction x = new SelfishJunction();
        x.addPlayer(1, 1);
        return x;
    }

    private static SelfishJunction waylessAndLed() {
        SelfishJunction x = wayless();
        x.lead(0, true);
        return x;
    }

    private static void bestWayOfLikeOnes() {
        SelfishJunction x = Junctions.alone(3, 3, 3, 3, 3);
        x.choose(0, 4);
        Edges.due("its own one, though it is the last", x.bestWay(0), 4);
        SelfishJunction y = Junctions.alone(4, 3, 9, 3, 3);
        Edges.due("the lowest, if its own one costs more", y.bestWay(0), 1);
        y.choose(0, 4);
        Edges.due("its own one, though not the lowest", y.bestWay(0), 4);
    }

    private static void bestWayIsOpen() {
        SelfishJunction x = Junctions.alone(4, 1, 2, 3);
        x.close(1, true);
        Edges.due("the best open one", x.bestWay(0), 2);
        x.close(2, true);
        x.close(3, true);
        Edges.due("the only open one", x.bestWay(0), 0);
        x.close(1, false);
        Edges.due("the best one again", x.bestWay(0), 1);
    }

    private static void improveRange() {
        Edges.playerRange("improve", (x, player) -> x.improve(player));
        Edges.refused("one without ways", Edges.OPERATION, EdgesOfUseTest::wayless, x -> x.improve(0));
        Edges.refused("one without ways who is led", Edges.OPERATION, EdgesOfUseTest::waylessAndLed,
            x -> x.improve(0));
        Edges.refused("one who is led", Edges.OPERATION, () -> {
            SelfishJunction x = Junctions.alone(2, 1);
            x.lead(0, true);
            return x;
        }, x -> x.improve(0));
        Edges.refused("nobody beside one who is led", Edges.INDEX, EdgesOfUseTest::waylessAndLed,
            x -> x.improve(1));
    }

    private static void improveByNothing() {
        SelfishJunction x = Junctions.alone(3, 3);
        Edges.due("like ones: no gain", x.improve(0), 0);
        Edges.due("it stays", x.getChosen(0), 0);
        SelfishJunction y = Junctions.alone(3, 2);
        Edges.due("the least gain", y.improve(0), 1);
        Edges.due("it goes", y.getChosen(0), 1);
        Edges.due("then it stays", y.improve(0), 0);
        SelfishJunction z = Junctions.alone(999, 0);
        z.setToll(0, 9999);
        z.setMind(0, 9);
        Edges.due("a great gain", z.improve(0), 999 + 9 * 9999);
    }

    private static void restAndGain() {
        SelfishJunction x = Junctions.alone(3, 3);
        Edges.due("like ones: at rest", x.isRest(), true);
        Edges.due("like ones: no gain", x.greatestGain(), 0);
        SelfishJunction y = Junctions.alone(3, 2);
        Edges.due("one less: not at rest", y.isRest(), false);
        Edges.due("the least gain", y.greatestGain(), 1);
        y.close(1, true);
        Edges.due("by a closed way nobody gains", y.isRest(), true);
        Edges.due("nor is it a gain", y.greatestGain(), 0);
        Edges.due("one without ways", wayless().isRest(), true);
        Edges.due("nobody", new SelfishJunction().greatestGain(), 0);
        SelfishJunction z = Junctions.full();
        for (int p = 0; p < 6; p++) {
            z.lead(p, true);
        }
        Edges.due("all are led", z.isRest(), true);
        Edges.due("nobody is asked", z.greatestGain(), 0);
        z.lead(5, false);
        z.choose(5, 3);
        Edges.due("the last one is", z.isRest(), false);
    }

    private static void runRules() {
        for (char rule : "rgz".toCharArray()) {
            Edges.taken("rule " + rule, Junctions::full, x -> x.run(rule, 1));
            Edges.outside("rule " + rule + " most", Edges.ARGUMENT, Junctions::full, 1, 200,
                (x, most) -> x.run(rule, most));
        }
        for (char rule : new char[] {'q', 's', 'f', 'h', 'y', '{', 'R', 'G', 'Z', (char) 0, (char) (256 + 'r'),
            (char) 65535}) {
            Edges.refused("rule " + (int) rule, Edges.ARGUMENT, Junctions::full, x -> x.run(rule, 1));
            Edges.refused("rule " + (int) rule + " and too many", Edges.ARGUMENT, Junctions::full,
                x -> x.run(rule, 201));
        }
    }

    private static void runMost() {
        for (char rule : "rgz".toCharArray()) {
            for (int most : new int[] {1, 2, 199, 200}) {
                Edges.due(most + " by " + rule, Junctions.restless().run(rule, most), most);
            }
            Edges.due("fewer, then at rest", Junctions.alone(2, 1).run(rule, 200), 1);
        }
    }

    private static void runAtRest() {
        for (char rule : "rgz".toCharArray()) {
            Edges.due("nobody, by " + rule, new SelfishJunction().run(rule, 200), 0);
            Edges.due("one without ways, by " + rule, wayless().run(rule, 200), 0);
            SelfishJunction x = Junctions.alone(1, 1);
            Edges.due("like ones, by " + rule, x.run(rule, 200), 0);
            Edges.due("z is not drawn, by " + rule, x.setSeed(1), 1);
            x.addResource('c', 0, 0);
            x.addWay(0, 4);
            x.lead(0, true);
            Edges.due("one who is led, by " + rule, x.run(rule, 200), 0);
        }
    }

    /** Only 2 gains; then 0 does, for 2 has left its way; nobody is behind 2. */
    private static SelfishJunction lastBeforeFirst() {
        SelfishJunction x = new SelfishJunction();
        x.addResource('l', 10, 0);
        x.addResource('c', 0, 15);
        x.addResource('c', 0, 5);
        x.addPlayer(1, 0);
        x.addPlayer(1, 0);
        x.addPlayer(3, 0);
        x.addWay(0, 2);
        x.addWay(0, 1);
        x.addWay(2, 1);
        x.addWay(2, 4);
        return x;
    }

    private static void runGoesRound() {
        SelfishJunction x = lastBeforeFirst();
        Edges.due("the last one", x.run('r', 1), 1);
        Edges.due("has changed", x.getChosen(2), 1);
        Edges.due("the first one has not", x.getChosen(0), 0);
        SelfishJunction y = lastBeforeFirst();
        Edges.due("behind the last comes the first", y.run('r', 200), 2);
        Edges.due("it has changed", y.getChosen(0), 1);
    }

    private static void runOfTheOnlyOne() {
        SelfishJunction x = Junctions.alone(2, 1);
        Edges.due("one of one", x.run('z', 200), 1);
        Edges.due("z is drawn all the same", x.setSeed(2147483646), 48271);
        x.choose(0, 0);
        x.run('z', 200);
        Edges.due("the greatest z goes round", x.setSeed(1), 2147483647 - 48271);
    }

    private static void potential() {
        Edges.due("of nothing", new SelfishJunction().getPotential(), 0);
        SelfishJunction x = Junctions.free(1);
        x.addPlayer(3, 9);
        x.addPlayer(2, 0);
        Edges.due("who has no ways is no matter", x.getPotential(), 0);
        SelfishJunction y = loaded('l', 10, 1, 1);
        Edges.due("a load of 1", y.getPotential(), 11);
        y.addPlayer(1, 0);
        y.addWay(1, 1);
        Edges.due("a load of 2", y.getPotential(), 11 + 21);
        y.setToll(0, 9999);
        Edges.due("a toll that nobody minds", y.getPotential(), 11 + 21);
        y.setMind(0, 9);
        y.setMind(1, 9);
        Edges.due("a toll for each player", y.getPotential(), 11 + 21 + 2 * 9 * 9999);
    }

    private static void potentialRefused() {
        Edges.refused("a weight of 2", Edges.OPERATION, () -> loaded('l', 1, 1, 2), SelfishJunction::getPotential);
        Edges.refused("a weight of 3", Edges.OPERATION, () -> loaded('l', 1, 1, 3), SelfishJunction::getPotential);
        Edges.refused("one of two weighs 1", Edges.OPERATION, () -> loaded('l', 1, 1, 4),
            SelfishJunction::getPotential);
        Edges.refused("minds that differ", Edges.OPERATION, () -> {
            SelfishJunction x = Junctions.pigou();
            x.setMind(1, 2);
            return x;
        }, SelfishJunction::getPotential);
        Edges.refused("a mind of 0 differs too", Edges.OPERATION, () -> {
            SelfishJunction x = Junctions.pigou();
            x.setMind(0, 0);
            return x;
        }, SelfishJunction::getPotential);
        Edges.refused("who is led counts", Edges.OPERATION, () -> {
            SelfishJunction x = Junctions.pigou();
            x.setMind(1, 9);
            x.lead(1, true);
            return x;
        }, SelfishJunction::getPotential);
    }

    private static void greatestPotential() {
        SelfishJunction x = allOnAll(1, 9);
        for (int r = 0; r < 8; r++) {
            x.setToll(r, 9999);
        }
        int delays = 20 * (1 + 4 + 9 + 16 + 25 + 36) + 6 * 999;
        Edges.due("the greatest potential", x.getPotential(), 8 * (delays + 6 * 9 * 9999));
    }
}
