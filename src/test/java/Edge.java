/**
 * Checks of one sentence each, always on a new object of a state that is told: what the call
 * answers, and that all else is as the document says, also what the walk comes to.
 */
final class Edge {
    interface State {
        Leastbag made();
    }

    interface Call {
        Object of(Leastbag x);
    }

    interface OfNumber {
        Object of(Leastbag x, int number);
    }

    /** The three states in which all wrong numbers are tried. */
    static final State[] STATES = {Edge::none, Edge::some, Edge::full};

    private Edge() {
    }

    // ---- states

    static Leastbag none() {
        return new Leastbag();
    }

    /** Each bag has an order of its own, things, and room; a walk went over one of three in bag 1. */
    static Leastbag some() {
        Leastbag x = new Leastbag();
        x.make(0, 1, 5);
        x.add(0, 5, 0);
        x.add(0, 60, 3);
        x.add(1, 7, 5);
        x.add(1, 40, 2);
        x.add(1, 40, 2);
        x.make(2, 2, 60);
        x.add(2, 0, 5);
        x.make(3, 3, 1);
        x.fill(3, 8, 3, 49);
        x.lay(30, 4);
        x.lay(2, 5);
        x.lay(30, 4);
        x.setOrder(2);
        x.join(4, 4);
        x.join(99, 0);
        x.knock();
        x.knock();
        x.addNothing(0, true);
        x.walk(1);
        x.step();
        return x;
    }

    /** Each bag has 60, the list and the set 20; a walk went over ten in bag 0. */
    static Leastbag full() {
        Leastbag x = new Leastbag();
        for (int bag = 0; bag < 4; bag++) {
            x.make(bag, bag, 60);
            fillTo(x, bag, 60);
        }
        x.setOrder(3);
        for (int k = 0; k < 20; k++) {
            x.lay(k * 37 % 100, k % 6);
            x.join(k * 41 % 100, k % 6);
        }
        x.knock();
        x.walk(0);
        for (int k = 0; k < 10; k++) {
            x.step();
        }
        return x;
    }

    /** Bag 1 has so many by order 2, bag 2 so many by order 3; a walk went over one of bag 1, if it has one. */
    static Leastbag two(int many, int others) {
        Leastbag x = new Leastbag();
        x.make(1, 2, 1);
        fillTo(x, 1, many);
        x.make(2, 3, 1);
        fillTo(x, 2, others);
        x.walk(1);
        if (many > 0) {
            x.step();
        }
        return x;
    }

    static Leastbag one(int many) {
        return two(many, 0);
    }

    /** Bag 1 has so many, the list so many, others than those of the bag. */
    static Leastbag listed(int many, int laid) {
        Leastbag x = one(many);
        for (int k = 0; k < laid; k++) {
            x.lay(k * 29 % 100, 5);
        }
        return x;
    }

    /** The set has so many, by order 1. */
    static Leastbag joined(int many) {
        Leastbag x = new Leastbag();
        x.setOrder(1);
        for (int k = 0; k < many; k++) {
            x.join(k * 5, k % 6);
        }
        return x;
    }

    static void fillTo(Leastbag x, int bag, int many) {
        x.fill(bag, many - many / 2, 3 + bag, 7);
        x.fill(bag, many / 2, 5, 11 + bag);
    }

    // ---- checks

    /** That very exception is thrown, and nothing is changed. */
    static void raises(String sentence, State state, Class<? extends RuntimeException> wanted, Call call) {
        Leastbag x = state.made();
        Look before = Look.at(x);
        Check.due(sentence, Check.outcome(() -> call.of(x)), "throws." + wanted.getSimpleName());
        Check.due(sentence + " (what is changed)", Look.at(x), before);
        goesOn(sentence, x);
    }

    /** A call that asks: nothing is changed by it. */
    static void asks(String sentence, State state, Object answer, Call call) {
        Leastbag x = state.made();
        Look before = Look.at(x);
        Check.due(sentence, Check.outcome(() -> call.of(x)), answer);
        Check.due(sentence + " (what is changed)", Look.at(x), before);
        goesOn(sentence, x);
    }

    /** A call that is refused: it is counted, and it may end the walk. */
    static void refuses(String sentence, State state, Object told, boolean endsWalk, Call call) {
        Leastbag x = state.made();
        Look before = Look.at(x).counted(1);
        Check.due(sentence, Check.outcome(() -> call.of(x)), told);
        Check.due(sentence + " (what is changed)", Look.at(x), endsWalk ? before.withoutWalk() : before);
        goesOn(sentence, x);
    }

    /** Nothing but the walk is changed by the call: it is ended. */
    static void endsOnlyTheWalk(String sentence, State state, Object answer, Call call) {
        Leastbag x = state.made();
        Look before = Look.at(x);
        Check.due(sentence, Check.outcome(() -> call.of(x)), answer);
        Check.due(sentence + " (what is changed)", Look.at(x), before.withoutWalk());
    }

    /** A call that is let: it answers so, and refuses nothing. The object is handed out for more. */
    static Leastbag lets(String sentence, State state, Object answer, Call call) {
        Leastbag x = state.made();
        int refusals = x.house(4);
        Check.due(sentence, Check.outcome(() -> call.of(x)), answer);
        Check.due(sentence + " (refusals)", x.house(4), refusals);
        return x;
    }

    /** Numbers from .. to are let; those beside them and the extreme ones are not. */
    static void bounds(String what, int from, int to, Class<? extends RuntimeException> wanted, OfNumber call) {
        outside(what, from, to, wanted, call);
        for (int number : new int[] {from, to}) {
            Object answer = Check.outcome(() -> call.of(some(), number));
            Check.due(what + " " + number + " is let (not " + answer + ")", answer.toString().startsWith("throws."), false);
        }
    }

    /** The numbers beside from .. to and the extreme ones throw, and change nothing. */
    static void outside(String what, int from, int to, Class<? extends RuntimeException> wanted, OfNumber call) {
        for (int number : new int[] {from - 1, to + 1, Integer.MIN_VALUE, Integer.MAX_VALUE}) {
            for (State state : STATES) {
                raises(what + " " + number, state, wanted, x -> call.of(x, number));
            }
        }
    }

    /** The checksum as the document tells it, of what the other calls answer. */
    static long digestByOtherCalls(Leastbag x) {
        long d = 7734;
        for (int what = 0; what <= 5; what++) {
            d = d * 31 + x.house(what);
        }
        for (int bag = 0; bag < 4; bag++) {
            d = d * 31 + x.size(bag);
            d = d * 31 + x.orderOf(bag);
            d = signs(signs(d, x.peek(bag)), x.sorted(bag));
            for (int kind = 0; kind <= 9; kind++) {
                d = d * 31 + x.total(bag, kind, false);
                d = d * 31 + x.total(bag, kind, true);
            }
        }
        for (int k = 0; k < x.house(1); k++) {
            d = signs(d, x.list(k));
        }
        d = signs(d, x.set());
        d = d * 31 + (x.isMore() ? 1 : 0);
        return d * 31 + (x.isSound() ? 1 : 0);
    }

    private static long signs(long d, String text) {
        long mix = d;
        for (int k = 0; k < text.length(); k++) {
            mix = mix * 31 + text.charAt(k);
        }
        return mix;
    }

    /** The walk, if there is one, comes over the rest of its bag, as if nothing had been called. */
    private static void goesOn(String sentence, Leastbag x) {
        int bag = x.house(3);
        if (bag < 0) {
            return;
        }
        int size = x.size(bag);
        for (int left = size - x.walked(0); left > 0; left--) {
            x.step();
        }
        Check.due(sentence + " (the walk then goes over)", x.walked(0), size);
        Check.due(sentence + " (the walk then weighs)", x.walked(1), x.total(bag, 9, true));
    }
}
