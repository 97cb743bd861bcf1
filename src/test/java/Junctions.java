/** Junctions that several tests begin with, each made anew. */
final class Junctions {
    private Junctions() { }

    /** Four resources, one of each kind; player 0 light, 1 heavier, 2 without ways. */
    static SelfishJunction mixed() {
        SelfishJunction x = new SelfishJunction();
        x.addResource('l', 2, 1);
        x.addResource('q', 1, 3);
        x.addResource('s', 5, 0);
        x.addResource('c', 9, 7);
        x.addPlayer(1, 2);
        x.addPlayer(2, 0);
        x.addPlayer(3, 1);
        x.addWay(0, 1);
        x.addWay(0, 2);
        x.addWay(0, 12);
        x.addWay(1, 1);
        x.addWay(1, 4);
        return x;
    }

    /** Two ways beside each other, the resources 0 and 1, for so many players of the weight 1. */
    static SelfishJunction parallel(int players, char kind0, int a0, int b0, char kind1, int a1, int b1) {
        SelfishJunction x = new SelfishJunction();
        x.addResource(kind0, a0, b0);
        x.addResource(kind1, a1, b1);
        for (int p = 0; p < players; p++) {
            x.addPlayer(1, 1);
            x.addWay(p, 1);
            x.addWay(p, 2);
        }
        return x;
    }

    static SelfishJunction even(int players) {
        return parallel(players, 'l', 10, 0, 'l', 10, 0);
    }

    /** One way always costs 20, the other 10 for each on it: three of the four plays are at rest. */
    static SelfishJunction pigou() {
        return parallel(2, 'c', 0, 20, 'l', 10, 0);
    }

    /** Four travellers, and the road 4 whose closing helps all. */
    static SelfishJunction braess() {
        SelfishJunction x = new SelfishJunction();
        x.addRoad(0, 1, 'l', 10, 0);
        x.addRoad(1, 3, 'c', 0, 50);
        x.addRoad(0, 2, 'c', 0, 50);
        x.addRoad(2, 3, 'l', 10, 0);
        x.addRoad(1, 2, 'c', 0, 10);
        for (int p = 0; p < 4; p++) {
            x.addTraveller(0, 3, 1, 1);
        }
        return x;
    }

    /** No play is at rest, so that all changes go round. */
    static SelfishJunction restless() {
        SelfishJunction x = new SelfishJunction();
        x.addResource('c', 10, 35);
        x.addResource('c', 4, 23);
        x.addResource('q', 11, 7);
        x.addResource('s', 4, 28);
        x.addPlayer(2, 0);
        x.addPlayer(2, 0);
        x.addPlayer(1, 0);
        x.addWay(0, 11);
        x.addWay(0, 5);
        x.addWay(1, 7);
        x.addWay(1, 6);
        x.addWay(2, 7);
        x.addWay(2, 8);
        return x;
    }

    /** There is a ring, but from the first play only a play at rest can be come to. */
    static SelfishJunction ringElsewhere() {
        SelfishJunction x = new SelfishJunction();
        x.addResource('q', 8, 15);
        x.addResource('l', 18, 10);
        x.addResource('q', 19, 21);
        x.addResource('s', 4, 35);
        x.addPlayer(3, 0);
        x.addPlayer(1, 0);
        x.addWay(0, 4);
        x.addWay(0, 10);
        x.addWay(1, 2);
        x.addWay(1, 7);
        x.addWay(1, 8);
        return x;
    }

    /** Exactly 1000 plays: five players with 5, 5, 5, 4 and 2 ways, and one with a single way. */
    static SelfishJunction thousand() {
        SelfishJunction x = new SelfishJunction();
        x.addResource('l', 1, 1);
        x.addResource('l', 2, 2);
        x.addResource('l', 3, 3);
        int[] ways = {5, 5, 5, 4, 2, 1};
        for (int p = 0; p < 6; p++) {
            x.addPlayer(1, 0);
            for (int bits = 1; bits <= ways[p]; bits++) {
                x.addWay(p, bits);
            }
        }
        return x;
    }

    /** All places taken: 8 resources, two of each kind, and 6 players with 5 ways each. */
    static SelfishJunction full() {
        SelfishJunction x = new SelfishJunction();
        for (int r = 0; r < 8; r++) {
            x.addResource("clqs".charAt(r % 4), r < 4 ? r : 20, r < 4 ? 3 * r : 999);
        }
        for (int p = 0; p < 6; p++) {
            x.addPlayer(1 + p % 3, p < 5 ? p : 9);
            for (int way = 0; way < 5; way++) {
                x.addWay(p, 1 << (p < 3 ? way : way + 3));
            }
        }
        return x;
    }

    /** As many resources that cost nothing as told. */
    static SelfishJunction free(int resources) {
        SelfishJunction x = new SelfishJunction();
        for (int r = 0; r < resources; r++) {
            x.addResource('c', 0, 0);
        }
        return x;
    }

    /** Players with so many ways each, of resources that cost nothing: every play is at rest, its total is 0. */
    static SelfishJunction freePlays(int... ways) {
        SelfishJunction x = free(3);
        for (int p = 0; p < ways.length; p++) {
            x.addPlayer(1, 0);
            for (int bits = 1; bits <= ways[p]; bits++) {
                x.addWay(p, bits);
            }
        }
        return x;
    }

    /** One player of the weight 1 and the mind 1, with a way of one resource for each delay told. */
    static SelfishJunction alone(int... delays) {
        SelfishJunction x = new SelfishJunction();
        x.addPlayer(1, 1);
        for (int way = 0; way < delays.length; way++) {
            x.addResource('c', 0, delays[way]);
            x.addWay(0, 1 << way);
        }
        return x;
    }

    /** Restless in exactly 1000 plays: to the three players come three who do not care where they go. */
    static SelfishJunction restlessThousand() {
        SelfishJunction x = restless();
        for (int r = 4; r < 7; r++) {
            x.addResource('c', 0, 0);
        }
        x.addResource('c', 0, 999);
        for (int p = 3; p < 6; p++) {
            x.addPlayer(1, 0);
            for (int bits = 1; bits <= 5; bits++) {
                x.addWay(p, bits << 4);
            }
        }
        return x;
    }

    /** Restless in 1500 plays: the player 0 gets a third way that it leaves whenever it is asked. */
    static SelfishJunction restlessBeyond() {
        SelfishJunction x = restlessThousand();
        x.addWay(0, 1 << 7 | 1);
        return x;
    }
}
