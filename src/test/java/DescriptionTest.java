import java.util.ArrayList;
import java.util.List;

/**
 * The sentences of "Description", which hold for all calls, each on both sides of its boundary:
 * which exception comes first, what is refused, things, orders, texts and kinds (all 600 things),
 * and which call ends a walk through which bag.
 */
public final class DescriptionTest {
    private static final int WEIGHTS = 100;
    private static final int LETTERS = 6;
    private static final int THINGS = WEIGHTS * LETTERS;

    public static void main(String[] args) {
        firstException();
        exceptionsAheadOfRefusals();
        texts();
        orders();
        rowsByOrders();
        kinds();
        limits();
        walkOverEachOnce();
        oneWalk();
        whatEndsIt();
        whatEndsItOfTwoBags();
        whatDoesNotEndIt();
        walkOverAllStays();
        lastCall();
        Check.end("DescriptionTest");
    }

    private interface OfBag {
        Object of(Leastbag x, int bag);
    }

    private interface OfTwoBags {
        Object of(Leastbag x, int bag, int other);
    }

    // ---- exceptions, refusals

    /** All that follows applies as well: wrong things beside 60, wrong numbers of a bag that is not. */
    private static void firstException() {
        for (int bag : new int[] {-1, 4, Integer.MIN_VALUE, Integer.MAX_VALUE}) {
            for (int wrong : new int[] {-1, 100, Integer.MIN_VALUE, Integer.MAX_VALUE}) {
                noBagFirst("make", x -> x.make(bag, wrong, wrong));
                noBagFirst("add", x -> x.add(bag, wrong, wrong));
                noBagFirst("offer", x -> x.offer(bag, wrong, wrong));
                noBagFirst("fill", x -> x.fill(bag, wrong, wrong, wrong));
                noBagFirst("remove", x -> x.remove(bag, wrong, wrong));
                noBagFirst("sweep", x -> x.sweep(bag, wrong));
                noBagFirst("contains", x -> x.contains(bag, wrong, wrong));
                noBagFirst("count", x -> x.count(bag, wrong, wrong));
                noBagFirst("total", x -> x.total(bag, wrong, true));
                noBagFirst("ahead", x -> x.ahead(bag, wrong, wrong, wrong, wrong));
                noBagFirst("nth", x -> x.nth(bag, wrong));
            }
            noBagFirst("addAll to none", x -> x.addAll(bag, 0));
            noBagFirst("addAll of none", x -> x.addAll(0, bag));
            noBagFirst("pour of none", x -> x.pour(bag, 0));
            noBagFirst("pour to none", x -> x.pour(0, bag));
            noBagFirst("addList", x -> x.addList(bag));
        }
        for (int[] wrong : new int[][] {{-1, 0}, {100, 0}, {0, -1}, {0, 6}, {-1, 6}, {100, -1}}) {
            wrongFirst("add beside 60", Edge::full, x -> x.add(0, wrong[0], wrong[1]));
            wrongFirst("offer beside 60", Edge::full, x -> x.offer(0, wrong[0], wrong[1]));
            wrongFirst("lay beside 20", Edge::full, x -> x.lay(wrong[0], wrong[1]));
            wrongFirst("join beside 20", Edge::full, x -> x.join(wrong[0], wrong[1]));
        }
        for (int[] wrong : new int[][] {{31, 0, 0}, {-1, 0, 0}, {30, -1, 0}, {30, 100, 0}, {30, 0, -1}, {30, 0, 100}}) {
            wrongFirst("fill beside 60", Edge::full, x -> x.fill(0, wrong[0], wrong[1], wrong[2]));
        }
        for (int what : new int[] {-1, 2, Integer.MIN_VALUE, Integer.MAX_VALUE}) {
            wrongFirst("walked without a walk", Edge::none, x -> x.walked(what));
        }
    }

    private static void noBagFirst(String name, Edge.Call call) {
        Edge.raises("first no bag: " + name, Edge::full, IndexOutOfBoundsException.class, call);
    }

    private static void wrongFirst(String name, Edge.State state, Edge.Call call) {
        Edge.raises("first the wrong number: " + name, state, IllegalArgumentException.class, call);
    }

    private static void exceptionsAheadOfRefusals() {
        Class<IndexOutOfBoundsException> noBag = IndexOutOfBoundsException.class;
        for (int bag : new int[] {-1, 4, Integer.MIN_VALUE, Integer.MAX_VALUE}) {
            for (Edge.State state : Edge.STATES) {
                Edge.raises("ahead of -9: make", state, noBag, x -> x.make(bag, 0, 0));
                Edge.raises("ahead of -9: addNothing", state, noBag, x -> x.addNothing(bag, true));
                Edge.raises("ahead of -9: addAll", state, noBag, x -> x.addAll(bag, bag));
                Edge.raises("ahead of -9: pour", state, noBag, x -> x.pour(bag, bag));
                Edge.raises("ahead of -9: untimely", state, noBag, x -> x.untimely(bag));
                Edge.raises("ahead of \"!\": take", state, noBag, x -> x.take(bag));
                Edge.raises("ahead of \"!\": element", state, noBag, x -> x.element(bag));
                Edge.raises("ahead of -9: make, with a wrong order", state, IllegalArgumentException.class, x -> x.make(0, bag, 0));
            }
        }
        Edge.raises("ahead of -9: step", Edge::none, IllegalStateException.class, Leastbag::step);
    }

    // ---- things, orders, kinds

    private static String textOf(int thing) {
        return thing / LETTERS + "" + "abcdef".charAt(thing % LETTERS);
    }

    private static void texts() {
        for (int thing = 0; thing < THINGS; thing++) {
            int weight = thing / LETTERS;
            int letter = thing % LETTERS;
            Leastbag x = new Leastbag();
            x.add(2, weight, letter);
            x.lay(weight, letter);
            x.join(weight, letter);
            String all = x.peek(2) + x.element(2) + x.sorted(2) + x.nth(2, 0) + x.list(0) + x.set();
            x.makeLike(0, 2);
            x.makeLike(1, 2);
            all += x.poll(0) + x.take(1) + x.pollAll(2);
            Check.due("the text of a thing, by nine calls", all, textOf(thing).repeat(9));
        }
    }

    /** Whether one thing stands ahead of another one, written down as the document says it. */
    private static boolean isAhead(int order, int one, int another) {
        int weight = one / LETTERS;
        int letter = one % LETTERS;
        int otherWeight = another / LETTERS;
        int otherLetter = another % LETTERS;
        switch (order) {
            case 0:
                return weight < otherWeight || weight == otherWeight && letter < otherLetter;
            case 1:
                return weight > otherWeight || weight == otherWeight && letter > otherLetter;
            case 2:
                return letter < otherLetter || letter == otherLetter && weight < otherWeight;
            default:
                if (weight % 10 != otherWeight % 10) {
                    return weight % 10 < otherWeight % 10;
                }
                return weight > otherWeight || weight == otherWeight && letter < otherLetter;
        }
    }

    private static void orders() {
        for (int order = 0; order < 4; order++) {
            for (int one = 0; one < THINGS; one++) {
                Leastbag x = new Leastbag();
                for (int another = 0; another < THINGS; another++) {
                    if (another % 300 == 0) {
                        x = new Leastbag();
                        x.make(3, order, 1);
                    }
                    int due = one == another ? 0 : isAhead(order, one, another) ? -1 : 1;
                    int got = x.ahead(3, one / LETTERS, one % LETTERS, another / LETTERS, another % LETTERS);
                    if (got != due) {
                        Check.due("by order " + order + " " + textOf(one) + " to " + textOf(another), got, due);
                    }
                }
            }
            Check.due("order " + order + " is gone through", true, true);
        }
    }

    /** All things, 60 at a time and each once or twice, put in by several sequences, stand and come by the order. */
    private static void rowsByOrders() {
        for (int order = 0; order < 4; order++) {
            for (int part = 0; part < 20; part++) {
                List<Integer> things = new ArrayList<>();
                for (int k = 0; k < 60; k++) {
                    things.add((part % 10 * 60 + (part < 10 ? k : k / 2 * 2) * 7 + k * 11 % 13 * 40) % THINGS);
                }
                rowByOrder(order, things);
            }
        }
    }

    private static void rowByOrder(int order, List<Integer> things) {
        Leastbag x = new Leastbag();
        x.make(1, order, 60);
        for (int thing : things) {
            x.add(1, thing / LETTERS, thing % LETTERS);
        }
        List<Integer> row = new ArrayList<>(things);
        row.sort((one, another) -> isAhead(order, one, another) ? -1 : isAhead(order, another, one) ? 1 : 0);
        StringBuilder texts = new StringBuilder();
        for (int k = 0; k < row.size(); k++) {
            texts.append(k == 0 ? "" : " ").append(textOf(row.get(k)));
            Check.due("place " + k + " by order " + order, x.nth(1, k), textOf(row.get(k)));
        }
        String due = texts.toString();
        Check.due("the row by order " + order, x.sorted(1), due);
        x.make(2, 3 - order, 1);
        x.addAll(2, 1);
        x.make(0, order, 1);
        x.pour(2, 0);
        Check.due("the row, poured, by order " + order, x.sorted(0), due);
        Check.due("the row, taken out, by order " + order, x.pollAll(0), due);
        for (int k = 0; k < row.size(); k++) {
            Check.due("the least one by order " + order, x.peek(1), textOf(row.get(k)));
            Check.due("the least one, taken out, by order " + order, x.poll(1), textOf(row.get(k)));
        }
    }

    private static boolean isOfKind(int thing, int kind) {
        int weight = thing / LETTERS;
        boolean[] is = {false, false, false, false, false, false, weight % 2 == 0, weight % 2 == 1, weight >= 50, true};
        return kind < 6 ? thing % LETTERS == kind : is[kind];
    }

    private static void kinds() {
        for (int thing = 0; thing < THINGS; thing++) {
            Leastbag x = new Leastbag();
            for (int kind = 0; kind < 10; kind++) {
                x.clear(3);
                x.add(3, thing / LETTERS, thing % LETTERS);
                boolean is = isOfKind(thing, kind);
                String name = textOf(thing) + ", kind " + kind;
                Check.due("how many: " + name, x.total(3, kind, false), is ? 1 : 0);
                Check.due("the sum: " + name, x.total(3, kind, true), is ? thing / LETTERS : 0);
                Check.due("taken out: " + name, x.sweep(3, kind), is ? 1 : 0);
                Check.due("left: " + name, x.size(3), is ? 0 : 1);
            }
        }
    }

    // ---- bags, the list, the set

    private static void limits() {
        Leastbag x = new Leastbag();
        for (int bag = 0; bag < 4; bag++) {
            for (int many = 1; many <= 60; many++) {
                Check.due("at most 60 in bag " + bag, x.add(bag, 99, 5), many);
            }
            int full = bag;
            Check.due("not 61 in bag " + bag, Check.outcome(() -> x.offer(full, 0, 0)), "throws.IllegalStateException");
        }
        for (int many = 1; many <= 20; many++) {
            Check.due("at most 20 in the list, also some like each other", x.lay(99, 5), many);
            Check.due("at most 20 in the set", x.join(many, 5), true);
            Check.due("so many in the set", x.house(2), many);
        }
        Check.due("not 21 in the list", Check.outcome(() -> x.lay(0, 0)), "throws.IllegalStateException");
        Check.due("not 21 in the set", Check.outcome(() -> x.join(0, 0)), "throws.IllegalStateException");
        Check.due("all of them stay", x.house(0) + " " + x.house(1) + " " + x.house(2), "240 20 20");
        Leastbag y = new Leastbag();
        y.join(5, 1);
        y.join(5, 0);
        y.join(4, 5);
        Check.due("the set's order is 0 at first", y.set(), "4f 5a 5b");
        y.add(0, 5, 1);
        y.add(0, 5, 0);
        y.add(0, 4, 5);
        Check.due("a bag's order is 0 at first", y.sorted(0), "4f 5a 5b");
    }

    // ---- the walk

    private static void walkOverEachOnce() {
        for (int order = 0; order < 4; order++) {
            for (int many : new int[] {0, 1, 2, 59, 60}) {
                Leastbag x = new Leastbag();
                x.make(order, order, 60);
                Edge.fillTo(x, order, many);
                Check.due("how many it will come over", x.walk(order), many);
                for (int over = 0; over < many; over++) {
                    Check.due("more, ahead of " + over, x.isMore(), true);
                    Check.due("no sum yet", x.walked(1), -1);
                    Check.due("one more", x.step(), over + 1);
                }
                Check.due("no more behind all", x.isMore(), false);
                Check.due("each once: the sum", x.walked(1), x.total(order, 9, true));
                Check.due("each once: how many", x.walked(0), many);
            }
        }
    }

    private static void oneWalk() {
        for (int first = 0; first < 4; first++) {
            for (int next = 0; next < 4; next++) {
                Leastbag x = walking(first);
                Check.due("a new walk", x.walk(next), x.size(next));
                Check.due("it ends that before", x.house(3) + " " + x.walked(0), next + " 0");
                Check.due("it begins anew", x.step(), 1);
                int before = first;
                x.clear(next == first ? (first + 1) % 4 : before);
                Check.due("the bag of the one before does not end it", x.house(3), next);
            }
            for (int bag : new int[] {-1, 4, Integer.MIN_VALUE, Integer.MAX_VALUE}) {
                int through = first;
                Edge.raises("a walk that is none ends none", () -> walking(through), IndexOutOfBoundsException.class, x -> x.walk(bag));
            }
        }
    }

    /** Each bag has three things; a walk went over two of the one that is told. */
    private static Leastbag walking(int bag) {
        Leastbag x = new Leastbag();
        for (int filled = 0; filled < 4; filled++) {
            x.fill(filled, 3, filled * 10, 7);
        }
        x.lay(8, 3);
        x.join(9, 4);
        x.walk(bag);
        x.step();
        x.step();
        return x;
    }

    /** A call of one bag ends a walk through that bag, and one through another bag goes on. */
    private static void ends(String name, OfBag call) {
        for (int through = 0; through < 4; through++) {
            for (int bag = 0; bag < 4; bag++) {
                Leastbag x = walking(through);
                call.of(x, bag);
                isWalk(name + " of " + bag, x, through, bag != through);
            }
        }
    }

    private static void isWalk(String name, Leastbag x, int through, boolean stays) {
        String where = name + ", a walk through " + through;
        Check.due(where + ": house(3)", x.house(3), stays ? through : -1);
        Check.due(where + ": isMore()", x.isMore(), stays);
        Check.due(where + ": walked(0)", Check.outcome(() -> x.walked(0)), stays ? 2 : "throws.IllegalStateException");
        Check.due(where + ": walked(1)", Check.outcome(() -> x.walked(1)), stays ? -1 : "throws.IllegalStateException");
        Check.due(where + ": step()", Check.outcome(x::step), stays ? 3 : "throws.IllegalStateException");
        if (stays) {
            Check.due(where + ": the sum", x.walked(1), x.total(through, 9, true));
        }
    }

    private static void whatEndsIt() {
        ends("make", (x, bag) -> x.make(bag, 3, 60));
        ends("make as it is", (x, bag) -> x.make(bag, 0, 1));
        ends("make, -9", (x, bag) -> x.make(bag, 0, 0));
        ends("makeOfList", (x, bag) -> x.makeOfList(bag));
        ends("makeOfSet", (x, bag) -> x.makeOfSet(bag));
        ends("add", (x, bag) -> x.add(bag, 1, 1));
        ends("offer", (x, bag) -> x.offer(bag, 1, 1));
        ends("fill", (x, bag) -> x.fill(bag, 30, 1, 1));
        ends("fill of none", (x, bag) -> x.fill(bag, 0, 1, 1));
        ends("addNothing as with offer", (x, bag) -> x.addNothing(bag, true));
        ends("addNothing as with add", (x, bag) -> x.addNothing(bag, false));
        ends("addList", (x, bag) -> x.addList(bag));
        ends("addList of none", (x, bag) -> x.unlay() + x.addList(bag));
        ends("poll", (x, bag) -> x.poll(bag));
        ends("take", (x, bag) -> x.take(bag));
        ends("remove", (x, bag) -> x.remove(bag, bag * 10, 0));
        ends("remove of what is not there", (x, bag) -> x.remove(bag, 99, 5));
        ends("sweep", (x, bag) -> x.sweep(bag, 9));
        ends("sweep of what is not there", (x, bag) -> x.sweep(bag, 5));
        ends("clear", (x, bag) -> x.clear(bag));
        ends("pollAll", (x, bag) -> x.pollAll(bag));
        ends("untimely", (x, bag) -> x.untimely(bag));
        endsOfNone("poll of none", (x, bag) -> x.poll(bag));
        endsOfNone("take of none", (x, bag) -> x.take(bag));
        endsOfNone("clear of none", (x, bag) -> x.clear(bag));
        endsOfNone("pollAll of none", (x, bag) -> x.pollAll(bag));
        endsOfNone("sweep of none", (x, bag) -> x.sweep(bag, 9));
        endsOfNone("make of none", (x, bag) -> x.make(bag, 0, 1));
        endsOfNone("untimely of none", (x, bag) -> x.untimely(bag));
    }

    /** The same with a walk through a bag without things. */
    private static void endsOfNone(String name, OfBag call) {
        for (int bag = 0; bag < 4; bag++) {
            Leastbag x = new Leastbag();
            x.walk(bag);
            call.of(x, (bag + 1) % 4);
            Check.due(name + ", another one: house(3)", x.house(3), bag);
            call.of(x, bag);
            Check.due(name + ": house(3)", x.house(3), -1);
            Check.due(name + ": walked(0)", Check.outcome(() -> x.walked(0)), "throws.IllegalStateException");
        }
    }

    private static void whatEndsItOfTwoBags() {
        endsOfTwo("makeLike", (x, bag, other) -> x.makeLike(bag, other));
        endsOfTwo("addAll", (x, bag, other) -> x.addAll(bag, other));
        endsOfTwo("pour", (x, bag, other) -> x.pour(bag, other));
    }

    private static void endsOfTwo(String name, OfTwoBags call) {
        for (int through = 0; through < 4; through++) {
            for (int bag = 0; bag < 4; bag++) {
                for (int other = 0; other < 4; other++) {
                    Leastbag x = walking(through);
                    call.of(x, bag, other);
                    isWalk(name + " of " + bag + " and " + other, x, through, bag != through && other != through);
                    Leastbag none = new Leastbag();
                    none.walk(through);
                    call.of(none, bag, other);
                    Check.due(name + " of two without things", none.house(3), bag != through && other != through ? through : -1);
                }
            }
        }
    }

    private static void whatDoesNotEndIt() {
        stays("lay", (x, bag) -> x.lay(1, 1));
        stays("unlay", (x, bag) -> x.unlay());
        stays("join", (x, bag) -> x.join(1, 1));
        stays("leave", (x, bag) -> x.leave(9, 4));
        stays("setOrder", (x, bag) -> x.setOrder(3));
        stays("isMore", (x, bag) -> x.isMore());
        stays("walked", (x, bag) -> x.walked(0) + x.walked(1));
        stays("peek", (x, bag) -> x.peek(bag));
        stays("element", (x, bag) -> x.element(bag));
        stays("contains", (x, bag) -> x.contains(bag, 1, 1));
        stays("count", (x, bag) -> x.count(bag, 1, 1));
        stays("total", (x, bag) -> x.total(bag, 9, true));
        stays("size", (x, bag) -> x.size(bag));
        stays("isEmpty", (x, bag) -> x.isEmpty(bag));
        stays("orderOf", (x, bag) -> x.orderOf(bag));
        stays("ahead", (x, bag) -> x.ahead(bag, 1, 1, 2, 2));
        stays("sorted", (x, bag) -> x.sorted(bag));
        stays("nth", (x, bag) -> x.nth(bag, 2));
        stays("areAlike", (x, bag) -> x.areAlike(bag, 0) ? x.areAlike(1, bag) : x.areAlike(bag, bag));
        stays("beyond", (x, bag) -> x.beyond(bag));
        stays("list", (x, bag) -> x.list(0));
        stays("set", (x, bag) -> x.set());
        stays("house", (x, bag) -> x.house(0) + x.house(3));
        stays("knock", (x, bag) -> x.knock());
        stays("isSound", (x, bag) -> x.isSound());
        stays("digest", (x, bag) -> x.digest());
        for (int bag = 0; bag < 4; bag++) {
            Leastbag x = new Leastbag();
            x.walk(bag);
            Check.due("element of none", x.element(bag), "!");
            Check.due("element of none does not end it", x.house(3), bag);
            Check.due("step of none", x.step(), -9);
            Check.due("step of none does not end it", x.house(3), bag);
        }
    }

    private static void stays(String name, OfBag call) {
        for (int through = 0; through < 4; through++) {
            for (int bag = 0; bag < 4; bag++) {
                Leastbag x = walking(through);
                call.of(x, bag);
                isWalk(name + " of " + bag, x, through, true);
            }
        }
    }

    private static void walkOverAllStays() {
        for (int many : new int[] {0, 1, 3, 60}) {
            Leastbag x = Edge.one(many);
            x.walk(1);
            for (int k = 0; k < many; k++) {
                x.step();
            }
            int weights = x.total(1, 9, true);
            Check.due("refused behind all", x.step(), -9);
            x.add(0, 1, 1);
            x.clear(2);
            x.isSound();
            Check.due("it stays: its bag", x.house(3), 1);
            Check.due("it stays: how many", x.walked(0), many);
            Check.due("it stays: the sum", x.walked(1), weights);
            Check.due("it stays: no more", x.isMore(), false);
            x.untimely(1);
            Check.due("till then", x.house(3), -1);
            Check.due("and not any longer", Check.outcome(x::step), "throws.IllegalStateException");
        }
    }

    // ---- an object's calls

    /** 511 calls, and what the 512th answers. */
    private static void lastCall() {
        for (int last = 0; last < 3; last++) {
            Leastbag x = new Leastbag();
            x.walk(3);
            for (int k = 0; k < 255; k++) {
                Check.due("put in", x.add(0, k % WEIGHTS, k % LETTERS), 1);
                Check.due("taken out", x.poll(0), k % WEIGHTS + "" + "abcdef".charAt(k % LETTERS));
            }
            Object got = last == 0 ? x.step() : last == 1 ? x.isSound() : x.sorted(0);
            Object due = last == 0 ? -9 : last == 1 ? (Object) true : "";
            Check.due("the 512th call", got, due);
        }
    }
}
