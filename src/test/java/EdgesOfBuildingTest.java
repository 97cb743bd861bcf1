/** The edges that the document names for the promises 1 to 6: a new object, resources, roads, players, ways. */
public final class EdgesOfBuildingTest {
    public static void main(String[] args) {
        newObjectHasNoResources();
        newObjectHasNoPlayers();
        newObjectsAreApart();
        kinds();
        resourceNumbers();
        ninthResource();
        refusedResourceTakesNoPlace();
        newResource();
        roadNodes();
        roadNumbers();
        ninthRoad();
        roadsAndResourcesShareThePlaces();
        roadBetweenTheOutermostNodes();
        playerNumbers();
        seventhPlayer();
        newPlayer();
        playersAndTravellersShareThePlaces();
        wayOfNobody();
        wayOfNoResources();
        wayOfWhatDoesNotExist();
        wayOfAClosedOne();
        wayThatThePlayerHas();
        sixthWay();
        firstExceptionOfAWay();
        firstWayIsChosen();
        travellerNumbers();
        travellerWithoutAPath();
        seventhTraveller();
        firstExceptionOfATraveller();
        refusedTravellerTakesNoPlace();
        fiveWaysAtMost();
        fewestRoadsFirst();
        lowestRoadsFirst();
        noNodeTwice();
        longestPath();
        onlyOpenRoads();
        travellerGetsAnotherWay();
        Check.finish();
    }

    private static void newObjectHasNoResources() {
        SelfishJunction x = new SelfishJunction();
        Edges.due("the first resource of a new object", x.addResource('c', 0, 0), 0);
        Edges.refused("a delay", Edges.INDEX, SelfishJunction::new, y -> y.getDelay(0, 0));
        Edges.refused("a toll", Edges.INDEX, SelfishJunction::new, y -> y.setToll(0, 0));
        Edges.refused("a level", Edges.ELEMENT, SelfishJunction::new, y -> y.getLevel(1, false));
        Edges.refused("a traveller", Edges.ELEMENT, SelfishJunction::new, y -> y.addTraveller(0, 5, 1, 0));
        Edges.due("the sum of no tolls", new SelfishJunction().tollByMargins(), 0);
    }

    private static void newObjectHasNoPlayers() {
        SelfishJunction x = new SelfishJunction();
        Edges.due("the first player of a new object", x.addPlayer(1, 0), 0);
        Edges.refused("a way", Edges.INDEX, SelfishJunction::new, y -> y.addWay(0, 0));
        Edges.refused("a quotient", Edges.ARITHMETIC, SelfishJunction::new, y -> y.costOfDisorder());
        Edges.refused("another quotient", Edges.ARITHMETIC, SelfishJunction::new, y -> y.bestCase());
        Edges.refused("a paradox", Edges.ELEMENT, SelfishJunction::new, y -> y.paradox());
        Edges.refused("a second rest", Edges.ELEMENT, SelfishJunction::new, y -> y.restTotal(1));
        SelfishJunction z = new SelfishJunction();
        Edges.due("the one play of nobody is at rest", z.countRests(), 1);
        Edges.due("it costs nothing", z.restTotal(0), 0);
        Edges.due("nobody changes", z.goToRest(0), 0);
        Edges.due("nothing was to be changed", z.checksum(), 7L * 31 + 1);
    }

    private static void newObjectsAreApart() {
        SelfishJunction x = Junctions.full();
        x.close(0, true);
        x.setSeed(77);
        x.learn(2);
        Edges.due("another one is new", new SelfishJunction().checksum(), 7L * 31 + 1);
        Edges.due("another one is open", Junctions.full().close(0, false), false);
    }

    private static void kinds() {
        for (char kind : "clqs".toCharArray()) {
            Edges.taken("the kind " + kind, SelfishJunction::new, x -> x.addResource(kind, 20, 999));
            Edges.taken("a road of the kind " + kind, SelfishJunction::new, x -> x.addRoad(0, 1, kind, 20, 999));
        }
        char[] wrong = {'b', 'd', 'k', 'm', 'p', 'r', 't', 'C', 'L', 'Q', 'S', ' ', '0', (char) 0, (char) 255,
            (char) (256 + 'c'), (char) (65280 + 'l'), (char) 65535};
        for (char kind : wrong) {
            Edges.refused("the kind " + (int) kind, Edges.ARGUMENT, SelfishJunction::new,
                x -> x.addResource(kind, 0, 0));
            Edges.refused("a road of the kind " + (int) kind, Edges.ARGUMENT, SelfishJunction::new,
                x -> x.addRoad(0, 1, kind, 0, 0));
        }
    }

    private static void resourceNumbers() {
        for (char kind : "clqs".toCharArray()) {
            Edges.range(kind + " with a", Edges.ARGUMENT, SelfishJunction::new, 0, 20,
                (x, a) -> x.addResource(kind, a, 5));
            Edges.range(kind + " with b", Edges.ARGUMENT, SelfishJunction::new, 0, 999,
                (x, b) -> x.addResource(kind, 5, b));
        }
    }

    private static SelfishJunction sevenResources() {
        return Junctions.free(7);
    }

    private static SelfishJunction eightResources() {
        return Junctions.free(8);
    }

    private static void ninthResource() {
        Edges.due("the eighth resource", sevenResources().addResource('s', 20, 999), 7);
        Edges.refused("the ninth", Edges.STATE, EdgesOfBuildingTest::eightResources, x -> x.addResource('c', 0, 0));
        Edges.refused("the ninth of no kind", Edges.ARGUMENT, EdgesOfBuildingTest::eightResources,
            x -> x.addResource('x', 0, 0));
        Edges.outside("the ninth with a", Edges.ARGUMENT, EdgesOfBuildingTest::eightResources, 0, 20,
            (x, a) -> x.addResource('c', a, 0));
        Edges.outside("the ninth with b", Edges.ARGUMENT, EdgesOfBuildingTest::eightResources, 0, 999,
            (x, b) -> x.addResource('c', 0, b));
    }

    private static void refusedResourceTakesNoPlace() {
        SelfishJunction x = sevenResources();
        Check.thrown("no kind", Edges.ARGUMENT, () -> x.addResource('x', 0, 0));
        Check.thrown("no road", Edges.ARGUMENT, () -> x.addRoad(3, 3, 'c', 0, 0));
        Edges.due("the eighth all the same", x.addResource('c', 0, 0), 7);
    }

    private static void newResource() {
        SelfishJunction x = new SelfishJunction();
        x.addResource('l', 1, 2);
        Edges.due("no load at first", x.getLoad(0), 0);
        Edges.due("no toll at first", x.setToll(0, 0), 0);
        Edges.due("open at first", x.close(0, false), false);
        x.addRoad(0, 1, 'l', 1, 2);
        Edges.due("a road is open at first", x.close(1, false), false);
    }

    private static void roadNodes() {
        Edges.range("from", Edges.ARGUMENT, SelfishJunction::new, 0, 5, (x, from) -> x.addRoad(from, 2, 'c', 0, 0));
        Edges.range("to", Edges.ARGUMENT, SelfishJunction::new, 0, 5, (x, to) -> x.addRoad(2, to, 'c', 0, 0));
        for (int node = -1; node <= 6; node++) {
            int same = node;
            Edges.refused("both " + node, Edges.ARGUMENT, SelfishJunction::new, x -> x.addRoad(same, same, 'c', 0, 0));
        }
    }

    private static void roadNumbers() {
        for (char kind : "clqs".toCharArray()) {
            Edges.range("a road " + kind + " with a", Edges.ARGUMENT, SelfishJunction::new, 0, 20,
                (x, a) -> x.addRoad(0, 5, kind, a, 5));
            Edges.range("a road " + kind + " with b", Edges.ARGUMENT, SelfishJunction::new, 0, 999,
                (x, b) -> x.addRoad(5, 0, kind, 5, b));
        }
    }

    private static void ninthRoad() {
        Edges.due("the eighth as a road", sevenResources().addRoad(0, 5, 's', 20, 999), 7);
        Edges.refused("the ninth road", Edges.STATE, EdgesOfBuildingTest::eightResources,
            x -> x.addRoad(0, 5, 'c', 0, 0));
        Edges.refused("the ninth, from a node to itself", Edges.ARGUMENT, EdgesOfBuildingTest::eightResources,
            x -> x.addRoad(5, 5, 'c', 0, 0));
        Edges.refused("the ninth, of no kind", Edges.ARGUMENT, EdgesOfBuildingTest::eightResources,
            x -> x.addRoad(0, 5, 'x', 0, 0));
        Edges.outside("the ninth, from", Edges.ARGUMENT, EdgesOfBuildingTest::eightResources, 0, 5,
            (x, from) -> x.addRoad(from, 2, 'c', 0, 0));
        Edges.outside("the ninth, to", Edges.ARGUMENT, EdgesOfBuildingTest::eightResources, 0, 5,
            (x, to) -> x.addRoad(2, to, 'c', 0, 0));
        Edges.outside("the ninth, a", Edges.ARGUMENT, EdgesOfBuildingTest::eightResources, 0, 20,
            (x, a) -> x.addRoad(0, 5, 'c', a, 0));
        Edges.outside("the ninth, b", Edges.ARGUMENT, EdgesOfBuildingTest::eightResources, 0, 999,
            (x, b) -> x.addRoad(0, 5, 'c', 0, b));
    }

    private static void roadsAndResourcesShareThePlaces() {
        SelfishJunction x = new SelfishJunction();
        for (int r = 0; r < 8; r += 2) {
            Edges.due("a resource", x.addResource('c', 0, 0), r);
            Edges.due("a road", x.addRoad(r / 2, r / 2 + 1, 'c', 0, 0), r + 1);
        }
        Check.thrown("a ninth resource", Edges.STATE, () -> x.addResource('c', 0, 0));
        Check.thrown("a ninth road", Edges.STATE, () -> x.addRoad(0, 1, 'c', 0, 0));
    }

    private static void roadBetweenTheOutermostNodes() {
        SelfishJunction x = new SelfishJunction();
        x.addRoad(0, 5, 'c', 0, 1);
        x.addRoad(5, 0, 'c', 0, 1);
        Edges.due("from 0 to 5", x.addTraveller(0, 5, 1, 0), 0);
        Edges.due("by the road 0", x.getWay(0, 0), 1);
        Edges.due("from 5 to 0", x.addTraveller(5, 0, 1, 0), 1);
        Edges.due("by the road 1", x.getWay(1, 0), 2);
    }

    private static void playerNumbers() {
        Edges.range("weight", Edges.ARGUMENT, SelfishJunction::new, 1, 3, (x, weight) -> x.addPlayer(weight, 0));
        Edges.range("mind", Edges.ARGUMENT, SelfishJunction::new, 0, 9, (x, mind) -> x.addPlayer(1, mind));
    }

    private static SelfishJunction players(int many) {
        SelfishJunction x = new SelfishJunction();
        x.addRoad(0, 1, 'c', 0, 1);
        for (int p = 0; p < many; p++) {
            x.addPlayer(1, 0);
        }
        return x;
    }

    private static SelfishJunction sixPlayers() {
        return players(6);
    }

    private static void seventhPlayer() {
        Edges.due("the sixth player", players(5).addPlayer(3, 9), 5);
        Edges.refused("the seventh", Edges.STATE, EdgesOfBuildingTest::sixPlayers, x -> x.addPlayer(1, 0));
        Edges.outside("the seventh of weight", Edges.ARGUMENT, EdgesOfBuildingTest::sixPlayers, 1, 3,
            (x, weight) -> x.addPlayer(weight, 0));
        Edges.outside("the seventh of mind", Edges.ARGUMENT, EdgesOfBuildingTest::sixPlayers, 0, 9,
            (x, mind) -> x.addPlayer(1, mind));
        SelfishJunction x = players(5);
        Check.thrown("a wrong player", Edges.ARGUMENT, () -> x.addPlayer(0, 0));
        Edges.due("the sixth all the same", x.addPlayer(1, 0), 5);
    }

    private static void newPlayer() {
        SelfishJunction x = players(1);
        Edges.due("no ways", x.countWays(0), 0);
        Edges.due("none chosen", x.getChosen(0), -1);
        Edges.due("no cost", x.getCost(0), 0);
        Edges.due("no regret", x.getRegret(0), 0);
        Edges.due("not led", x.lead(0, false), false);
        Edges.due("no total", x.getTotal(), 0);
    }

    private static void playersAndTravellersShareThePlaces() {
        SelfishJunction x = players(0);
        for (int p = 0; p < 6; p += 2) {
            Edges.due("a player", x.addPlayer(1, 0), p);
            Edges.due("a traveller", x.addTraveller(0, 1, 1, 0), p + 1);
        }
        Check.thrown("a seventh player", Edges.STATE, () -> x.addPlayer(1, 0));
        Check.thrown("a seventh traveller", Edges.STATE, () -> x.addTraveller(0, 1, 1, 0));
    }

    private static SelfishJunction threeFreeAndOnePlayer() {
        SelfishJunction x = Junctions.free(3);
        x.addPlayer(1, 0);
        return x;
    }

    private static SelfishJunction eightFreeAndOnePlayer() {
        SelfishJunction x = Junctions.free(8);
        x.addPlayer(1, 0);
        return x;
    }

    private static void wayOfNobody() {
        Edges.range("a way of one of six", Edges.INDEX, () -> {
            SelfishJunction x = sixPlayers();
            x.addResource('c', 0, 0);
            return x;
        }, 0, 5, (x, player) -> x.addWay(player, 2));
        Edges.range("a way of the only one", Edges.INDEX, EdgesOfBuildingTest::threeFreeAndOnePlayer, 0, 0,
            (x, player) -> x.addWay(player, 1));
    }

    private static void wayOfNoResources() {
        Edges.refused("a way of no resources", Edges.ARGUMENT, EdgesOfBuildingTest::threeFreeAndOnePlayer,
            x -> x.addWay(0, 0));
        Edges.refused("a way where there are none", Edges.ARGUMENT, EdgesOfBuildingTest::newPlayerAlone,
            x -> x.addWay(0, 0));
    }

    private static SelfishJunction newPlayerAlone() {
        SelfishJunction x = new SelfishJunction();
        x.addPlayer(1, 0);
        return x;
    }

    private static void wayOfWhatDoesNotExist() {
        Edges.refused("the first of none", Edges.ARGUMENT, EdgesOfBuildingTest::newPlayerAlone, x -> x.addWay(0, 1));
        Edges.range("bits of three", Edges.ARGUMENT, EdgesOfBuildingTest::threeFreeAndOnePlayer, 1, 7,
            (x, bits) -> x.addWay(0, bits));
        Edges.range("bits of eight", Edges.ARGUMENT, EdgesOfBuildingTest::eightFreeAndOnePlayer, 1, 255,
            (x, bits) -> x.addWay(0, bits));
        for (int place = 3; place < 32; place++) {
            int bits = 1 << place | 1;
            Edges.refused("one that is, and " + place, Edges.ARGUMENT, EdgesOfBuildingTest::threeFreeAndOnePlayer,
                x -> x.addWay(0, bits));
        }
    }

    private static SelfishJunction secondIsClosed() {
        SelfishJunction x = threeFreeAndOnePlayer();
        x.addWay(0, 1);
        x.close(1, true);
        return x;
    }

    private static void wayOfAClosedOne() {
        Edges.refused("a closed one", Edges.OPERATION, EdgesOfBuildingTest::secondIsClosed, x -> x.addWay(0, 2));
        Edges.refused("one of three is closed", Edges.OPERATION, EdgesOfBuildingTest::secondIsClosed,
            x -> x.addWay(0, 7));
        Edges.taken("the others", EdgesOfBuildingTest::secondIsClosed, x -> x.addWay(0, 5));
        SelfishJunction x = secondIsClosed();
        x.close(1, false);
        Edges.due("opened again", x.addWay(0, 2), 1);
    }

    private static void wayThatThePlayerHas() {
        SelfishJunction x = threeFreeAndOnePlayer();
        x.addPlayer(1, 0);
        x.addWay(0, 3);
        x.addWay(0, 4);
        Check.thrown("the first again", Edges.OPERATION, () -> x.addWay(0, 3));
        Check.thrown("the last again", Edges.OPERATION, () -> x.addWay(0, 4));
        Edges.due("a part of it is another one", x.addWay(0, 1), 2);
        Edges.due("another player may have it", x.addWay(1, 3), 0);
        Edges.refused("the way of a full one", Edges.OPERATION, Junctions::full, y -> y.addWay(5, 128));
    }

    private static SelfishJunction fourWays() {
        SelfishJunction x = threeFreeAndOnePlayer();
        for (int bits = 1; bits <= 4; bits++) {
            x.addWay(0, bits);
        }
        return x;
    }

    private static SelfishJunction fiveWays() {
        SelfishJunction x = fourWays();
        x.addWay(0, 5);
        return x;
    }

    private static SelfishJunction fiveWaysAndOneClosed() {
        SelfishJunction x = fiveWays();
        x.close(1, true);
        return x;
    }

    private static void sixthWay() {
        Edges.due("the fifth way", fourWays().addWay(0, 7), 4);
        Edges.refused("the sixth way", Edges.STATE, EdgesOfBuildingTest::fiveWays, x -> x.addWay(0, 6));
        Edges.refused("the sixth of a full one", Edges.STATE, Junctions::full, x -> x.addWay(5, 1));
    }

    private static void firstExceptionOfAWay() {
        Edges.refused("nobody, and no resources", Edges.INDEX, EdgesOfBuildingTest::fiveWays, x -> x.addWay(1, 0));
        Edges.refused("nobody, and one that does not exist", Edges.INDEX, EdgesOfBuildingTest::fiveWays,
            x -> x.addWay(-1, 8));
        Edges.refused("nobody, and a closed one", Edges.INDEX, EdgesOfBuildingTest::secondIsClosed,
            x -> x.addWay(1, 2));
        Edges.refused("one that does not exist, and a closed one", Edges.ARGUMENT,
            EdgesOfBuildingTest::secondIsClosed, x -> x.addWay(0, 10));
        Edges.refused("the sixth of no resources", Edges.ARGUMENT, EdgesOfBuildingTest::fiveWays,
            x -> x.addWay(0, 0));
        Edges.refused("the sixth of what does not exist", Edges.ARGUMENT, EdgesOfBuildingTest::fiveWays,
            x -> x.addWay(0, 8));
        Edges.refused("the sixth of a closed one", Edges.OPERATION, EdgesOfBuildingTest::fiveWaysAndOneClosed,
            x -> x.addWay(0, 6));
        Edges.refused("the sixth that it has", Edges.OPERATION, EdgesOfBuildingTest::fiveWays, x -> x.addWay(0, 5));
    }

    private static void firstWayIsChosen() {
        SelfishJunction x = threeFreeAndOnePlayer();
        x.lead(0, true);
        x.addWay(0, 6);
        Edges.due("the first one, also of one who is led", x.getChosen(0), 0);
        Edges.due("its first resource is not on it", x.getLoad(0), 0);
        Edges.due("its last resource is", x.getLoad(2), 1);
        x.addWay(0, 1);
        Edges.due("the second is not chosen", x.getChosen(0), 0);
    }

    private static void travellerNumbers() {
        Edges.range("from", Edges.ARGUMENT, EdgesOfBuildingTest::ringRoad, 0, 5, (x, from) ->
            x.addTraveller(from, 2, 1, 0));
        Edges.range("to", Edges.ARGUMENT, EdgesOfBuildingTest::ringRoad, 0, 5, (x, to) -> x.addTraveller(2, to, 1, 0));
        Edges.range("weight", Edges.ARGUMENT, EdgesOfBuildingTest::ringRoad, 1, 3, (x, weight) ->
            x.addTraveller(0, 5, weight, 0));
        Edges.range("mind", Edges.ARGUMENT, EdgesOfBuildingTest::ringRoad, 0, 9, (x, mind) ->
            x.addTraveller(0, 5, 1, mind));
        for (int node = -1; node <= 6; node++) {
            int same = node;
            Edges.refused("both " + node, Edges.ARGUMENT, EdgesOfBuildingTest::ringRoad, x ->
                x.addTraveller(same, same, 1, 0));
        }
    }

    /** A road from each node to the next one, and from the last to the first. */
    private static SelfishJunction ringRoad() {
        SelfishJunction x = new SelfishJunction();
        for (int node = 0; node < 6; node++) {
            x.addRoad(node, (node + 1) % 6, 'c', 0, 1);
        }
        return x;
    }

    private static SelfishJunction oneRoad() {
        return players(0);
    }

    private static void travellerWithoutAPath() {
        Edges.refused("without roads", Edges.ELEMENT, SelfishJunction::new, x -> x.addTraveller(0, 1, 1, 0));
        Edges.refused("by a resource that is no road", Edges.ELEMENT, EdgesOfBuildingTest::eightResources,
            x -> x.addTraveller(0, 1, 1, 0));
        Edges.refused("against the road", Edges.ELEMENT, EdgesOfBuildingTest::oneRoad,
            x -> x.addTraveller(1, 0, 1, 0));
        Edges.refused("from another node", Edges.ELEMENT, EdgesOfBuildingTest::oneRoad,
            x -> x.addTraveller(2, 1, 1, 0));
        Edges.refused("to another node", Edges.ELEMENT, EdgesOfBuildingTest::oneRoad,
            x -> x.addTraveller(0, 5, 1, 0));
        Edges.refused("by a closed road", Edges.ELEMENT, EdgesOfBuildingTest::oneClosedRoad,
            x -> x.addTraveller(0, 1, 1, 0));
    }

    private static SelfishJunction oneClosedRoad() {
        SelfishJunction x = oneRoad();
        x.close(0, true);
        return x;
    }

    private static void seventhTraveller() {
        Edges.due("the sixth", players(5).addTraveller(0, 1, 1, 0), 5);
        Edges.refused("the seventh", Edges.STATE, EdgesOfBuildingTest::sixPlayers, x -> x.addTraveller(0, 1, 1, 0));
    }

    private static void firstExceptionOfATraveller() {
        Edges.refused("wrong, and no path", Edges.ARGUMENT, EdgesOfBuildingTest::oneRoad,
            x -> x.addTraveller(1, 0, 0, 0));
        Edges.refused("both the same, and no path", Edges.ARGUMENT, SelfishJunction::new,
            x -> x.addTraveller(0, 0, 1, 0));
        Edges.outside("the seventh, from", Edges.ARGUMENT, EdgesOfBuildingTest::sixPlayers, 0, 5,
            (x, from) -> x.addTraveller(from, 1, 1, 0));
        Edges.outside("the seventh, to", Edges.ARGUMENT, EdgesOfBuildingTest::sixPlayers, 0, 5,
            (x, to) -> x.addTraveller(0, to, 1, 0));
        Edges.outside("the seventh, weight", Edges.ARGUMENT, EdgesOfBuildingTest::sixPlayers, 1, 3,
            (x, weight) -> x.addTraveller(0, 1, weight, 0));
        Edges.outside("the seventh, mind", Edges.ARGUMENT, EdgesOfBuildingTest::sixPlayers, 0, 9,
            (x, mind) -> x.addTraveller(0, 1, 1, mind));
        Edges.refused("the seventh, without a path", Edges.ELEMENT, EdgesOfBuildingTest::sixPlayers,
            x -> x.addTraveller(1, 0, 1, 0));
    }

    private static void refusedTravellerTakesNoPlace() {
        SelfishJunction x = oneRoad();
        Check.thrown("no path", Edges.ELEMENT, () -> x.addTraveller(1, 0, 1, 0));
        Check.thrown("no weight", Edges.ARGUMENT, () -> x.addTraveller(0, 1, 0, 0));
        Edges.due("the first one", x.addTraveller(0, 1, 3, 9), 0);
        Edges.due("its weight is on the road", x.getLoad(0), 3);
        Edges.due("its mind", x.setMind(0, 0), 9);
    }

    private static void dueWays(String what, SelfishJunction x, int player, int... ways) {
        StringBuilder got = new StringBuilder();
        StringBuilder want = new StringBuilder();
        for (int way = 0; way < x.countWays(player); way++) {
            got.append(x.getWay(player, way)).append(' ');
        }
        for (int bits : ways) {
            want.append(bits).append(' ');
        }
        Edges.due(what, got.toString(), want.toString());
        Edges.due(what + ", the first is chosen", x.getChosen(player), 0);
    }

    private static SelfishJunction besideEachOther(int roads) {
        SelfishJunction x = new SelfishJunction();
        for (int r = 0; r < roads; r++) {
            x.addRoad(4, 2, 'c', 0, r);
        }
        x.addTraveller(4, 2, 2, 0);
        return x;
    }

    private static void fiveWaysAtMost() {
        dueWays("one path", besideEachOther(1), 0, 1);
        dueWays("four paths", besideEachOther(4), 0, 1, 2, 4, 8);
        dueWays("five paths", besideEachOther(5), 0, 1, 2, 4, 8, 16);
        dueWays("six paths", besideEachOther(6), 0, 1, 2, 4, 8, 16);
        dueWays("eight paths", besideEachOther(8), 0, 1, 2, 4, 8, 16);
        Check.thrown("a sixth way by hand", Edges.STATE, () -> besideEachOther(6).addWay(0, 32));
    }

    private static void fewestRoadsFirst() {
        SelfishJunction x = new SelfishJunction();
        x.addRoad(0, 1, 'c', 0, 1);
        x.addRoad(1, 2, 'c', 0, 1);
        x.addRoad(2, 3, 'c', 0, 1);
        x.addRoad(3, 4, 'c', 0, 1);
        x.addRoad(1, 3, 'c', 0, 1);
        x.addRoad(0, 3, 'c', 0, 1);
        x.addRoad(0, 4, 'c', 0, 1);
        x.addTraveller(0, 4, 1, 0);
        dueWays("one, two, three, four roads", x, 0, 64, 32 + 8, 1 + 16 + 8, 1 + 2 + 4 + 8);
    }

    private static void lowestRoadsFirst() {
        SelfishJunction x = new SelfishJunction();
        x.addRoad(2, 1, 'c', 0, 1);
        x.addRoad(0, 3, 'c', 0, 1);
        x.addRoad(0, 2, 'c', 0, 1);
        x.addRoad(3, 1, 'c', 0, 1);
        x.addRoad(2, 1, 'c', 0, 1);
        x.addRoad(3, 1, 'c', 0, 1);
        x.addTraveller(0, 1, 1, 0);
        // 1 3, 1 5, 2 0, 2 4: by the first road, then by the second, not by the bits
        dueWays("one behind the other", x, 0, 2 + 8, 2 + 32, 4 + 1, 4 + 16);
    }

    private static void noNodeTwice() {
        SelfishJunction x = new SelfishJunction();
        x.addRoad(0, 1, 'c', 0, 1);
        x.addRoad(1, 0, 'c', 0, 1);
        x.addRoad(1, 2, 'c', 0, 1);
        x.addRoad(2, 1, 'c', 0, 1);
        x.addRoad(1, 3, 'c', 0, 1);
        x.addRoad(0, 4, 'c', 0, 1);
        x.addRoad(3, 4, 'c', 0, 1);
        x.addRoad(4, 3, 'c', 0, 1);
        x.addTraveller(0, 3, 1, 0);
        // not back through 0, not round by 2, not through 3 and back to it
        dueWays("each node once", x, 0, 1 + 16, 32 + 128);
    }

    private static void longestPath() {
        SelfishJunction x = ringRoad();
        x.addTraveller(0, 5, 1, 0);
        x.addTraveller(5, 4, 1, 0);
        x.addTraveller(5, 0, 1, 0);
        dueWays("five roads", x, 0, 31);
        dueWays("five roads over the last node", x, 1, 32 + 15);
        dueWays("one road", x, 2, 32);
        Edges.due("all three", x.getLoad(0) * 10 + x.getLoad(5), 22);
    }

    private static void onlyOpenRoads() {
        SelfishJunction x = new SelfishJunction();
        x.addRoad(0, 1, 'c', 0, 1);
        x.addRoad(0, 1, 'c', 0, 1);
        x.addResource('c', 0, 1);
        x.close(0, true);
        x.addTraveller(0, 1, 1, 0);
        dueWays("not the closed one", x, 0, 2);
        x.close(0, false);
        dueWays("opened, but it has its ways", x, 0, 2);
        x.addTraveller(0, 1, 1, 0);
        dueWays("the next one has both", x, 1, 1, 2);
    }

    private static void travellerGetsAnotherWay() {
        SelfishJunction x = besideEachOther(2);
        x.addResource('c', 0, 0);
        Check.thrown("a path that it has", Edges.OPERATION, () -> x.addWay(0, 2));
        Edges.due("another way", x.addWay(0, 4), 2);
    }
}
