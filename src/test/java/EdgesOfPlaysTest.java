import java.util.function.Consumer;

/** The edges that the document names for the promises 28 to 36, 41, 42 and 44: what is told of all plays. */
public final class EdgesOfPlaysTest {
    public static void main(String[] args) {
        fewestPlays();
        mostPlays();
        thousandPlaysAreTaken();
        morePlaysAreRefused();
        fewerPlaysAreTakenAgain();
        restIndex();
        restIndexOfNone();
        firstExceptionOfARest();
        restsAreNumbered();
        restsWithLedAndClosed();
        leastTotal();
        rings();
        ringsOfThousand();
        longestRun();
        longestRunByOtherRows();
        longestRunRefused();
        askedAgain();
        firstPlayerWithoutWays();
        strongOrNot();
        strongByAnyPlay();
        strongWithLed();
        paradoxByOne();
        paradoxOfNothing();
        paradoxIsTheLowest();
        paradoxCouldBeClosed();
        paradoxNeedsRests();
        paradoxOfOneWhoIsLed();
        quotientOfNothing();
        quotientOfOne();
        quotientWithoutRest();
        firstExceptionOfAQuotient();
        quotientIsOfItsType();
        sound();
        Check.finish();
    }

    private static SelfishJunction thousand() {
        return Junctions.freePlays(5, 5, 5, 4, 2, 1);
    }

    /** The fewest plays above 1000 that there can be. */
    private static SelfishJunction thousandAndMore() {
        return Junctions.freePlays(4, 4, 4, 4, 4, 1);
    }

    private static void fewestPlays() {
        Edges.due("of nobody", new SelfishJunction().countPlays(), 1);
        Edges.due("of players without ways", Junctions.freePlays(0, 0, 0).countPlays(), 1);
        Edges.due("of one way each", Junctions.freePlays(1, 1, 1, 1, 1, 1).countPlays(), 1);
        Edges.due("of one player", Junctions.freePlays(5).countPlays(), 5);
        Edges.due("beside one without ways", Junctions.freePlays(0, 5, 0).countPlays(), 5);
        SelfishJunction x = Junctions.full();
        for (int p = 0; p < 6; p++) {
            x.lead(p, true);
        }
        Edges.due("all are led", x.countPlays(), 1);
    }

    private static void mostPlays() {
        Edges.due("the most", Junctions.full().countPlays(), 15625);
        Edges.due("a thousand", thousand().countPlays(), 1000);
        Edges.due("a thousand and more", thousandAndMore().countPlays(), 1024);
        SelfishJunction x = Junctions.full();
        x.close(4, true);
        Edges.due("all but the closed ones", x.countPlays(), 4 * 4 * 4 * 4 * 4 * 4);
    }

    private static void eachOfAllPlays(Consumer<Consumer<SelfishJunction>> judge) {
        judge.accept(SelfishJunction::countRests);
        judge.accept(x -> x.restTotal(0));
        judge.accept(x -> x.goToRest(0));
        judge.accept(SelfishJunction::leastTotal);
        judge.accept(SelfishJunction::hasRing);
        judge.accept(SelfishJunction::longestRun);
        judge.accept(SelfishJunction::isStrong);
    }

    private static void thousandPlaysAreTaken() {
        eachOfAllPlays(call -> Edges.taken("1000 plays", EdgesOfPlaysTest::thousand, call));
        Edges.refused("no paradox in 1000 plays", Edges.ELEMENT, EdgesOfPlaysTest::thousand,
            SelfishJunction::paradox);
        Edges.refused("a least total of 0 in 1000 plays", Edges.ARITHMETIC, EdgesOfPlaysTest::thousand,
            SelfishJunction::costOfDisorder);
        Edges.refused("again", Edges.ARITHMETIC, EdgesOfPlaysTest::thousand, SelfishJunction::bestCase);
        Edges.due("all are at rest", thousand().countRests(), 1000);
        Edges.taken("the last of 1000", EdgesOfPlaysTest::thousand, x -> x.restTotal(999));
        Edges.refused("behind the last of 1000", Edges.ELEMENT, EdgesOfPlaysTest::thousand, x -> x.restTotal(1000));
        Edges.due("five players change", thousand().goToRest(999), 5);
        Edges.refused("to behind the last of 1000", Edges.ELEMENT, EdgesOfPlaysTest::thousand,
            x -> x.goToRest(1000));
    }

    private static void morePlaysAreRefused() {
        eachOfAllPlays(call ->
            Edges.refused("1024 plays", Edges.OPERATION, EdgesOfPlaysTest::thousandAndMore, call));
        eachOfAllPlays(call ->
            Edges.refused("15625 plays", Edges.OPERATION, Junctions::full, call));
        Edges.refused("paradox in 1024 plays", Edges.OPERATION, EdgesOfPlaysTest::thousandAndMore,
            SelfishJunction::paradox);
        Edges.refused("costOfDisorder of 1024 plays", Edges.OPERATION, EdgesOfPlaysTest::thousandAndMore,
            SelfishJunction::costOfDisorder);
        Edges.refused("bestCase of 1024 plays", Edges.OPERATION, EdgesOfPlaysTest::thousandAndMore,
            SelfishJunction::bestCase);
    }

    private static void fewerPlaysAreTakenAgain() {
        SelfishJunction x = Junctions.freePlays(4, 4, 4, 4, 4);
        Check.thrown("1024 plays", Edges.OPERATION, x::countRests);
        x.close(0, true);
        // of the ways 1 2 3 4 those without the resource 0 are 2 and 4
        Edges.due("32 plays while one is closed", x.countRests(), 32);
        x.close(0, false);
        Check.thrown("1024 plays again", Edges.OPERATION, x::countRests);
        x.lead(4, true);
        Edges.due("256 plays while one is led", x.countRests(), 256);
        x.lead(4, false);
        Check.thrown("1024 plays once more", Edges.OPERATION, x::countRests);
    }

    private static void restIndex() {
        Edges.range("restTotal", Edges.ELEMENT, Junctions::pigou, 0, 2, (x, index) -> x.restTotal(index));
        Edges.range("goToRest", Edges.ELEMENT, Junctions::pigou, 0, 2, (x, index) -> x.goToRest(index));
        Edges.range("restTotal of nobody", Edges.ELEMENT, SelfishJunction::new, 0, 0,
            (x, index) -> x.restTotal(index));
        Edges.range("goToRest of nobody", Edges.ELEMENT, SelfishJunction::new, 0, 0,
            (x, index) -> x.goToRest(index));
    }

    private static void restIndexOfNone() {
        Edges.due("no play is at rest", Junctions.restless().countRests(), 0);
        Edges.refused("the first of none", Edges.ELEMENT, Junctions::restless, x -> x.restTotal(0));
        Edges.outside("restTotal of none", Edges.ELEMENT, Junctions::restless, 0, -1, (x, index) -> x.restTotal(index));
        Edges.refused("to the first of none", Edges.ELEMENT, Junctions::restless, x -> x.goToRest(0));
        Edges.outside("goToRest of none", Edges.ELEMENT, Junctions::restless, 0, -1, (x, index) -> x.goToRest(index));
    }

    private static void firstExceptionOfARest() {
        Edges.outside("restTotal of 1024 plays", Edges.OPERATION, EdgesOfPlaysTest::thousandAndMore, 0, 1023,
            (x, index) -> x.restTotal(index));
        Edges.outside("goToRest of 1024 plays", Edges.OPERATION, EdgesOfPlaysTest::thousandAndMore, 0, 1023,
            (x, index) -> x.goToRest(index));
        Edges.refused("none in 1500 plays", Edges.OPERATION, Junctions::restlessBeyond, x -> x.restTotal(0));
    }

    private static String chosen(SelfishJunction x, int players) {
        StringBuilder text = new StringBuilder();
        for (int p = 0; p < players; p++) {
            text.append(x.getChosen(p)).append(' ');
        }
        return text.toString();
    }

    private static void restsAreNumbered() {
        SelfishJunction x = Junctions.freePlays(2, 0, 3);
        String[] due = {"0 -1 0 ", "0 -1 1 ", "0 -1 2 ", "1 -1 0 ", "1 -1 1 ", "1 -1 2 "};
        int[] changed = {0, 1, 1, 2, 1, 1};
        Edges.due("all six", x.countRests(), 6);
        for (int index = 0; index < 6; index++) {
            Edges.due("how many change to " + index, x.goToRest(index), changed[index]);
            Edges.due("the play " + index, chosen(x, 3), due[index]);
            Edges.due("nobody changes again", x.goToRest(index), 0);
        }
    }

    private static void restsWithLedAndClosed() {
        SelfishJunction x = Junctions.freePlays(2, 5);
        x.choose(0, 1);
        x.lead(0, true);
        x.close(2, true);
        // of the ways 1 2 3 4 5 of the player 1, those without the resource 2 are 1 2 3
        Edges.due("three", x.countRests(), 3);
        Edges.due("to the last", x.goToRest(2), 1);
        Edges.due("who is led stays", chosen(x, 2), "1 2 ");
        SelfishJunction y = Junctions.alone(1, 9);
        y.choose(0, 1);
        y.lead(0, true);
        Edges.due("who is led does not gain", y.countRests(), 1);
        Edges.due("on its way", y.restTotal(0), 9);
        Edges.due("it stays there", y.goToRest(0), 0);
    }

    private static void leastTotal() {
        Edges.due("of nobody", new SelfishJunction().leastTotal(), 0);
        Edges.due("of nothing", thousand().leastTotal(), 0);
        Edges.due("of the last play", Junctions.alone(5, 4, 3, 2, 1).leastTotal(), 1);
        Edges.due("of the first play", Junctions.alone(1, 2, 3, 4, 5).leastTotal(), 1);
        SelfishJunction x = Junctions.alone(5, 4, 3, 2, 1);
        x.close(4, true);
        Edges.due("of an open one", x.leastTotal(), 2);
        x.setToll(3, 9999);
        Edges.due("tolls aside", x.leastTotal(), 2);
        Edges.due("where no play is at rest", Junctions.restless().leastTotal() > 0, true);
    }

    private static void rings() {
        Edges.due("of nobody", new SelfishJunction().hasRing(), false);
        Edges.due("like ones are no change", thousand().hasRing(), false);
        Edges.due("a ring", Junctions.restless().hasRing(), true);
        SelfishJunction x = Junctions.restless();
        x.lead(0, true);
        x.lead(1, true);
        x.lead(2, true);
        Edges.due("all are led", x.hasRing(), false);
    }

    private static void ringsOfThousand() {
        Edges.due("1000 plays", Junctions.restlessThousand().countPlays(), 1000);
        Edges.due("a ring in them", Junctions.restlessThousand().hasRing(), true);
        Edges.due("none is at rest", Junctions.restlessThousand().countRests(), 0);
        Edges.due("1500 plays", Junctions.restlessBeyond().countPlays(), 1500);
        Edges.refused("a ring in 1500 plays", Edges.OPERATION, Junctions::restlessBeyond, SelfishJunction::hasRing);
    }

    private static void longestRun() {
        Edges.due("of nobody", new SelfishJunction().longestRun(), 0);
        Edges.due("at rest", Junctions.alone(1, 1, 1).longestRun(), 0);
        Edges.due("the least", Junctions.alone(2, 1).longestRun(), 1);
        Edges.due("by each way in turn", Junctions.alone(5, 4, 3, 2, 1).longestRun(), 4);
        Edges.due("not by like ones", Junctions.alone(5, 4, 4, 4, 1).longestRun(), 2);
        SelfishJunction x = Junctions.alone(5, 4, 3, 2, 1);
        x.close(2, true);
        Edges.due("not by a closed one", x.longestRun(), 3);
        x.choose(0, 3);
        Edges.due("from the play of now", x.longestRun(), 1);
        x.lead(0, true);
        Edges.due("who is led makes none", x.longestRun(), 0);
    }

    /** Whichever way is looked at first, the row by way of all the others is the longest. */
    private static void longestRunByOtherRows() {
        Edges.due("the best way first", Junctions.alone(5, 1, 2, 3, 4).longestRun(), 4);
        Edges.due("the best way in the middle", Junctions.alone(5, 3, 1, 4, 2).longestRun(), 4);
        SelfishJunction x = Junctions.alone(1, 2, 3, 4, 5);
        x.choose(0, 4);
        Edges.due("back from the last way", x.longestRun(), 4);
    }

    private static void longestRunRefused() {
        Edges.refused("a ring", Edges.ARITHMETIC, Junctions::restless, SelfishJunction::longestRun);
        Edges.refused("a ring in 1000 plays", Edges.ARITHMETIC, Junctions::restlessThousand,
            SelfishJunction::longestRun);
        Edges.refused("a ring in 1500 plays", Edges.OPERATION, Junctions::restlessBeyond,
            SelfishJunction::longestRun);
        SelfishJunction x = Junctions.ringElsewhere();
        Edges.due("there is a ring", x.hasRing(), true);
        Edges.due("but it cannot be come to from rest", x.longestRun(), 0);
        x.choose(0, 1);
        Edges.due("nor by the change to rest", x.longestRun(), 1);
        x.choose(1, 2);
        Check.thrown("here it can", Edges.ARITHMETIC, x::longestRun);
    }

    private static void askedAgain() {
        SelfishJunction x = Junctions.restless();
        x.lead(0, true);
        Edges.due("no ring while one is led", x.hasRing(), false);
        x.lead(0, false);
        Edges.due("a ring when it is not", x.hasRing(), true);
        x.lead(0, true);
        Edges.due("none again", x.hasRing(), false);
        SelfishJunction y = Junctions.alone(5, 4, 3, 2, 1);
        Edges.due("a run of four", y.longestRun(), 4);
        y.setToll(1, 9);
        y.setToll(2, 9);
        Edges.due("a run of two", y.longestRun(), 2);
        y.setToll(2, 0);
        Edges.due("a run of three", y.longestRun(), 3);
        y.setToll(4, 1);
        Edges.due("the last two are like ones now", y.longestRun(), 2);
        SelfishJunction z = Junctions.alone(5, 4, 3, 2, 1);
        Edges.due("from the first to the last", z.longestRun(), 4);
        for (int r = 1; r < 5; r++) {
            z.setToll(r, 9);
        }
        z.choose(0, 1);
        Edges.due("the first one ends it now", z.longestRun(), 4);
        SelfishJunction w = Junctions.restless();
        Check.thrown("a ring", Edges.ARITHMETIC, w::longestRun);
        w.lead(0, true);
        w.lead(1, true);
        Edges.due("no ring while two are led", w.longestRun() <= 1, true);
    }

    private static void firstPlayerWithoutWays() {
        SelfishJunction x = new SelfishJunction();
        x.addResource('c', 0, 3);
        x.addResource('c', 0, 2);
        x.addPlayer(1, 0);
        x.addPlayer(1, 0);
        x.addWay(1, 1);
        x.addWay(1, 2);
        x.addPlayer(1, 0);
        Edges.due("two plays", x.countPlays(), 2);
        Edges.due("one change", x.longestRun(), 1);
        Edges.due("not strong", x.isStrong(), false);
        Edges.due("one rest", x.countRests(), 1);
        Edges.due("one changes", x.goToRest(0), 1);
        Edges.due("the others have no way", chosen(x, 3), "-1 1 -1 ");
        Edges.due("no change", x.longestRun(), 0);
        Edges.due("strong", x.isStrong(), true);
    }

    private static void strongOrNot() {
        Edges.due("of nobody", new SelfishJunction().isStrong(), true);
        Edges.due("nobody pays less", thousand().isStrong(), true);
        Edges.due("like ones", Junctions.alone(3, 3).isStrong(), true);
        Edges.due("one less", Junctions.alone(3, 2).isStrong(), false);
        SelfishJunction x = Junctions.alone(3, 2);
        x.close(1, true);
        Edges.due("one less, but closed", x.isStrong(), true);
        // together on 1 both pay 50, alone each pays 100 and 60 here
        SelfishJunction y = Junctions.parallel(2, 'c', 0, 60, 's', 1, 0);
        Edges.due("nobody gains alone", y.isRest(), true);
        Edges.due("but both do together", y.isStrong(), false);
        Edges.due("a dearer way for both", Junctions.parallel(2, 'c', 0, 51, 's', 1, 0).isStrong(), false);
        Edges.due("a like one for both", Junctions.parallel(2, 'c', 0, 50, 's', 1, 0).isStrong(), true);
    }

    private static void strongByAnyPlay() {
        for (int best = 0; best < 5; best++) {
            for (int own = 0; own < 5; own++) {
                int[] delays = {7, 7, 7, 7, 7};
                delays[best] = 6;
                SelfishJunction x = Junctions.alone(delays);
                x.choose(0, own);
                Edges.due(own + ", where " + best + " is best", x.isStrong(), own == best);
            }
        }
    }

    private static void strongWithLed() {
        SelfishJunction x = Junctions.parallel(2, 'c', 0, 60, 's', 1, 0);
        x.lead(0, true);
        Edges.due("who is led stays", x.isStrong(), true);
        SelfishJunction y = Junctions.alone(3, 2);
        y.lead(0, true);
        Edges.due("though it would pay less", y.isStrong(), true);
    }

    /** One player goes to the way 0, which costs 50, as the other is told with a toll of 90. */
    private static SelfishJunction tolled(int otherDelay) {
        SelfishJunction x = Junctions.alone(50, otherDelay);
        x.setToll(1, 90);
        return x;
    }

    private static void paradoxByOne() {
        Edges.due("one less without it", tolled(49).paradox(), 0);
        Edges.refused("as much without it", Edges.ELEMENT, () -> tolled(50), SelfishJunction::paradox);
        Edges.refused("one more without it", Edges.ELEMENT, () -> tolled(51), SelfishJunction::paradox);
        SelfishJunction x = tolled(49);
        String before = Edges.look(x);
        x.paradox();
        Edges.due("only as if it were closed", Edges.look(x), before);
    }

    private static void paradoxOfNothing() {
        Edges.due("a total of 0 without it", tolled(0).paradox(), 0);
        SelfishJunction x = Junctions.alone(0, 0);
        x.setToll(1, 90);
        Check.thrown("a total of 0 with it", Edges.ELEMENT, x::paradox);
    }

    private static void paradoxIsTheLowest() {
        SelfishJunction x = Junctions.free(2);
        x.addResource('c', 0, 20);
        x.addResource('c', 0, 30);
        x.addResource('c', 0, 49);
        x.addPlayer(1, 1);
        x.addWay(0, 12);
        x.addWay(0, 16);
        x.setToll(4, 90);
        Edges.due("the lower one of two", x.paradox(), 2);
        x.close(2, true);
        Check.thrown("the other leads nowhere now", Edges.ELEMENT, x::paradox);
        Edges.due("the last resource", lastIsParadox().paradox(), 7);
    }

    private static SelfishJunction lastIsParadox() {
        SelfishJunction x = Junctions.free(6);
        x.addResource('c', 0, 10);
        x.addResource('c', 0, 20);
        x.addPlayer(1, 1);
        x.addWay(0, 1 << 6);
        x.addWay(0, 1 << 7);
        x.setToll(6, 90);
        return x;
    }

    private static void paradoxCouldBeClosed() {
        Edges.refused("nothing at all", Edges.ELEMENT, SelfishJunction::new, SelfishJunction::paradox);
        Edges.refused("nobody on it", Edges.ELEMENT, () -> Junctions.free(8), SelfishJunction::paradox);
        Edges.refused("the only way", Edges.ELEMENT, () -> Junctions.alone(999), SelfishJunction::paradox);
        Edges.refused("a closed one", Edges.ELEMENT, () -> {
            SelfishJunction x = tolled(49);
            x.close(0, true);
            return x;
        }, SelfishJunction::paradox);
        SelfishJunction x = tolled(49);
        x.addPlayer(1, 1);
        x.addWay(1, 1);
        Check.thrown("another one needs it", Edges.ELEMENT, x::paradox);
    }

    /** With the free way of the player 0 there are plays at rest; without its resource 4 there are none. */
    private static SelfishJunction restByOneWay() {
        SelfishJunction x = Junctions.restless();
        x.addResource('c', 0, 0);
        x.addWay(0, 16);
        return x;
    }

    private static void paradoxNeedsRests() {
        Edges.refused("no rest with it", Edges.ELEMENT, Junctions::restless, SelfishJunction::paradox);
        SelfishJunction x = restByOneWay();
        Edges.due("a rest with it", x.countRests() > 0, true);
        Check.thrown("none without it", Edges.ELEMENT, x::paradox);
        x.close(4, true);
        Edges.due("there is none", x.countRests(), 0);
        Edges.refused("no rest in 1000 plays", Edges.ELEMENT, Junctions::restlessThousand, SelfishJunction::paradox);
        Edges.refused("no rest in 1500 plays", Edges.OPERATION, Junctions::restlessBeyond, SelfishJunction::paradox);
    }

    private static void paradoxOfOneWhoIsLed() {
        SelfishJunction x = Junctions.alone(4, 2, 9);
        x.choose(0, 2);
        x.lead(0, true);
        // as if 2 were closed, it goes to the lowest open way, not to the best one
        Edges.due("the way of one who is led", x.paradox(), 2);
        SelfishJunction y = Junctions.alone(9, 2, 9);
        y.choose(0, 2);
        y.lead(0, true);
        Check.thrown("its lowest way costs as much", Edges.ELEMENT, y::paradox);
    }

    private static void quotientOfNothing() {
        Edges.refused("of nobody", Edges.ARITHMETIC, SelfishJunction::new, SelfishJunction::costOfDisorder);
        Edges.refused("of nobody", Edges.ARITHMETIC, SelfishJunction::new, SelfishJunction::bestCase);
        Edges.refused("a least total of 0", Edges.ARITHMETIC, () -> Junctions.alone(0),
            SelfishJunction::costOfDisorder);
        Edges.refused("a least total of 0", Edges.ARITHMETIC, () -> Junctions.alone(0), SelfishJunction::bestCase);
        // at rest the player pays 1 to escape a toll
        Edges.refused("0, but not at rest", Edges.ARITHMETIC, EdgesOfPlaysTest::tolledFree,
            SelfishJunction::costOfDisorder);
        Edges.refused("0, but not at rest", Edges.ARITHMETIC, EdgesOfPlaysTest::tolledFree,
            SelfishJunction::bestCase);
        Edges.due("the total at rest", tolledFree().restTotal(0), 1);
    }

    private static SelfishJunction tolledFree() {
        SelfishJunction x = Junctions.alone(0, 1);
        x.setToll(0, 9);
        return x;
    }

    private static void quotientOfOne() {
        Edges.due("the least total of 1", Junctions.alone(1).costOfDisorder(), 1.0f);
        Edges.due("the least total of 1", Junctions.alone(1).bestCase(), 1.0);
        SelfishJunction x = Junctions.alone(999, 1);
        x.lead(0, true);
        Edges.due("one who is led", x.costOfDisorder(), 1.0f);
        SelfishJunction y = Junctions.alone(1, 999);
        y.setToll(0, 9999);
        Edges.due("a great quotient", y.costOfDisorder(), 999.0f);
        Edges.due("a great quotient", y.bestCase(), 999.0);
    }

    private static void quotientWithoutRest() {
        Edges.refused("no rest", Edges.ARITHMETIC, Junctions::restless, SelfishJunction::costOfDisorder);
        Edges.refused("no rest", Edges.ARITHMETIC, Junctions::restless, SelfishJunction::bestCase);
        Edges.refused("no rest in 1000 plays", Edges.ARITHMETIC, Junctions::restlessThousand,
            SelfishJunction::costOfDisorder);
        Edges.refused("no rest in 1000 plays", Edges.ARITHMETIC, Junctions::restlessThousand,
            SelfishJunction::bestCase);
    }

    private static void firstExceptionOfAQuotient() {
        Edges.refused("no rest in 1500 plays", Edges.OPERATION, Junctions::restlessBeyond,
            SelfishJunction::costOfDisorder);
        Edges.refused("no rest in 1500 plays", Edges.OPERATION, Junctions::restlessBeyond,
            SelfishJunction::bestCase);
        Edges.refused("a least total of 0 in 1024 plays", Edges.OPERATION, EdgesOfPlaysTest::thousandAndMore,
            SelfishJunction::costOfDisorder);
        Edges.refused("a least total of 0 in 1024 plays", Edges.OPERATION, EdgesOfPlaysTest::thousandAndMore,
            SelfishJunction::bestCase);
    }

    private static void quotientIsOfItsType() {
        SelfishJunction x = Junctions.parallel(2, 'c', 0, 4, 'l', 2, 0);
        // rests: one on each, 4 + 2, or both on 1, 4 + 4; the least is 6
        Edges.due("by floats", x.costOfDisorder(), 8f / 6f);
        Edges.due("not by doubles", (double) x.costOfDisorder() == 8.0 / 6.0, false);
        SelfishJunction y = Junctions.alone(3, 10);
        y.setToll(0, 9999);
        Edges.due("by doubles", y.bestCase(), 10.0 / 3.0);
        Edges.due("not by floats", y.bestCase() == (double) (10f / 3f), false);
    }

    private static void sound() {
        Edges.due("nothing", new SelfishJunction().isSound(), true);
        Edges.due("all places taken", Junctions.full().isSound(), true);
        Edges.due("1000 plays with a potential", thousand().isSound(), true);
        Edges.due("1024 plays with a potential", thousandAndMore().isSound(), true);
        Edges.due("a ring in 1000 plays, without a potential", Junctions.restlessThousand().isSound(), true);
        Edges.due("a ring in 1500 plays, without a potential", Junctions.restlessBeyond().isSound(), true);
        SelfishJunction x = Junctions.full();
        String before = Edges.look(x);
        x.isSound();
        Edges.due("asking changes nothing", Edges.look(x), before);
    }
}
