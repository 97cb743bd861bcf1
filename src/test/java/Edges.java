import java.util.NoSuchElementException;
import java.util.function.BiConsumer;
import java.util.function.Consumer;
import java.util.function.Supplier;

/** What the tests of the edges share: calls that are taken, and calls that are refused and change nothing. */
final class Edges {
    static final Class<IllegalArgumentException> ARGUMENT = IllegalArgumentException.class;
    static final Class<IllegalStateException> STATE = IllegalStateException.class;
    static final Class<IndexOutOfBoundsException> INDEX = IndexOutOfBoundsException.class;
    static final Class<UnsupportedOperationException> OPERATION = UnsupportedOperationException.class;
    static final Class<NoSuchElementException> ELEMENT = NoSuchElementException.class;
    static final Class<ArithmeticException> ARITHMETIC = ArithmeticException.class;

    private Edges() { }

    static void due(String what, Object got, Object want) {
        Check.due(what, got, want);
    }

    /** The call throws just that on a junction made anew, and nothing is changed by it. */
    static void refused(String what, Class<? extends RuntimeException> want, Supplier<SelfishJunction> made,
            Consumer<SelfishJunction> call) {
        SelfishJunction x = made.get();
        String before = look(x);
        Check.thrown(what, want, () -> call.accept(x));
        due(what + " changes nothing", look(x), before);
    }

    /** The call throws nothing on a junction made anew. */
    static void taken(String what, Supplier<SelfishJunction> made, Consumer<SelfishJunction> call) {
        SelfishJunction x = made.get();
        String got = "nothing";
        try {
            call.accept(x);
        } catch (RuntimeException e) {
            got = e.toString();
        }
        due(what + " throws", got, "nothing");
    }

    /** The first and the last number of a range are taken; those just outside and the farthest are refused. */
    static void range(String what, Class<? extends RuntimeException> want, Supplier<SelfishJunction> made, int least,
            int most, BiConsumer<SelfishJunction, Integer> call) {
        taken(what + " " + least, made, x -> call.accept(x, least));
        taken(what + " " + most, made, x -> call.accept(x, most));
        outside(what, want, made, least, most, call);
    }

    static void outside(String what, Class<? extends RuntimeException> want, Supplier<SelfishJunction> made,
            int least, int most, BiConsumer<SelfishJunction, Integer> call) {
        for (int number : new int[] {least - 1, most + 1, Integer.MIN_VALUE, Integer.MAX_VALUE}) {
            refused(what + " " + number, want, made, x -> call.accept(x, number));
        }
    }

    /** The number of a player: none of none, the first and the last of two and of six, none outside. */
    static void playerRange(String what, BiConsumer<SelfishJunction, Integer> call) {
        refused(what + " of nobody", INDEX, SelfishJunction::new, x -> call.accept(x, 0));
        refused(what + " of nobody, -1", INDEX, SelfishJunction::new, x -> call.accept(x, -1));
        range(what + ", two players,", INDEX, Junctions::pigou, 0, 1, call);
        range(what + ", all players,", INDEX, Junctions::full, 0, 5, call);
    }

    /** The number of a resource: none of none, the first and the last of two and of eight, none outside. */
    static void resourceRange(String what, BiConsumer<SelfishJunction, Integer> call) {
        refused(what + " of nothing", INDEX, SelfishJunction::new, x -> call.accept(x, 0));
        refused(what + " of nothing, -1", INDEX, SelfishJunction::new, x -> call.accept(x, -1));
        range(what + ", two resources,", INDEX, Junctions::pigou, 0, 1, call);
        range(what + ", all resources,", INDEX, Junctions::full, 0, 7, call);
    }

    /** The number of a way: none of none, the first and the last of two and of five, none outside. */
    static void wayRange(String what, BiConsumer<SelfishJunction, Integer> call) {
        refused(what + " of none", INDEX, Edges::wayless, x -> call.accept(x, 0));
        refused(what + " of none, -1", INDEX, Edges::wayless, x -> call.accept(x, -1));
        range(what + ", two ways,", INDEX, Junctions::pigou, 0, 1, call);
        range(what + ", all ways,", INDEX, Junctions::full, 0, 4, call);
    }

    /** A player without ways, beside one that has some. */
    private static SelfishJunction wayless() {
        SelfishJunction x = Junctions.free(1);
        x.addPlayer(1, 0);
        x.addPlayer(1, 0);
        x.addWay(1, 1);
        return x;
    }

    /** All that can be asked of a junction; what must be set to be told is set back. */
    static String look(SelfishJunction x) {
        StringBuilder text = new StringBuilder();
        text.append(x.checksum()).append(' ').append(x.getTotal()).append(' ').append(x.countPlays());
        for (int r = 0; isThere(x, r, true); r++) {
            boolean closed = x.close(r, false);
            x.close(r, closed);
            text.append('\n').append(x.getLoad(r)).append(' ').append(x.getDelay(r, 1)).append(' ')
                .append(x.getDelay(r, 18)).append(' ').append(closed);
        }
        for (int p = 0; isThere(x, p, false); p++) {
            int mind = x.setMind(p, 0);
            x.setMind(p, mind);
            boolean led = x.lead(p, false);
            x.lead(p, led);
            text.append('\n').append(x.getChosen(p)).append(' ').append(mind).append(' ').append(led).append(' ')
                .append(x.getRegret(p));
            for (int way = 0; way < x.countWays(p); way++) {
                text.append(' ').append(x.getWay(p, way)).append(' ').append(x.costOf(p, way));
            }
        }
        return text.toString();
    }

    private static boolean isThere(SelfishJunction x, int number, boolean isResource) {
        try {
            if (isResource) {
                x.getLoad(number);
            } else {
                x.getChosen(number);
            }
            return true;
        } catch (IndexOutOfBoundsException e) {
            return false;
        }
    }
}
