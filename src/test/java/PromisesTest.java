/** A part for each promise of the document, with answers written by hand: usual calls, edges, wrong ones. */
public final class PromisesTest {
    private static final Class<IndexOutOfBoundsException> NO_BAG = IndexOutOfBoundsException.class;
    private static final Class<IndexOutOfBoundsException> NO_PLACE = IndexOutOfBoundsException.class;
    private static final Class<IllegalArgumentException> WRONG = IllegalArgumentException.class;
    private static final Class<IllegalStateException> NO_ROOM = IllegalStateException.class;
    private static final Class<IllegalStateException> NONE_THERE = IllegalStateException.class;

    public static void main(String[] args) {
        newObject();
        make();
        makeLike();
        makeOfList();
        makeOfSet();
        addAndOffer();
        fill();
        addNothing();
        addAll();
        addList();
        poll();
        take();
        remove();
        sweep();
        clear();
        pollAll();
        pour();
        untimely();
        lay();
        unlay();
        join();
        leave();
        setOrder();
        walk();
        whatEndsTheWalk();
        whatDoesNotEndTheWalk();
        step();
        isMore();
        walked();
        peek();
        element();
        contains();
        count();
        total();
        size();
        isEmpty();
        orderOf();
        ahead();
        sorted();
        nth();
        areAlike();
        beyond();
        list();
        set();
        house();
        knock();
        isSound();
        digest();
        Check.end("PromisesTest");
    }

    // ---- helpers

    /** A new object with a bag 1 of three things, of which two are like each other. */
    private static Leastbag some() {
        Leastbag x = new Leastbag();
        x.add(1, 40, 2);
        x.add(1, 7, 5);
        x.add(1, 40, 2);
        return x;
    }

    /** A new object with so many things in bag 0. */
    private static Leastbag with(int many) {
        Leastbag x = new Leastbag();
        x.fill(0, Math.min(many, 30), 3, 7);
        x.fill(0, Math.max(many - 30, 0), 5, 11);
        return x;
    }

    private interface BagCall {
        Object of(int bag);
    }

    private static void noSuchBag(String name, Leastbag x, BagCall call) {
        for (int bag : new int[] {-1, 4, Integer.MIN_VALUE, Integer.MAX_VALUE}) {
            Check.raises(name + " of bag " + bag, x, NO_BAG, () -> call.of(bag));
        }
    }

    private interface ThingCall {
        Object of(int weight, int letter);
    }

    private static void noSuchThing(String name, Leastbag x, ThingCall call) {
        int[][] wrong = {{-1, 0}, {100, 0}, {0, -1}, {0, 6}, {-1, 6}, {Integer.MIN_VALUE, 0}, {0, Integer.MAX_VALUE}};
        for (int[] thing : wrong) {
            Check.raises(name + " of " + thing[0] + ", " + thing[1], x, WRONG, () -> call.of(thing[0], thing[1]));
        }
    }

    /** The call answers so, counts as refused once, and changes nothing else of the bags. */
    private static void refuses(String name, Leastbag x, Object told, Check.Call call) {
        int before = x.house(4);
        StringBuilder rows = new StringBuilder();
        rowsOf(x, rows);
        Check.due(name, call.answer(), told);
        Check.due(name + " is counted", x.house(4), before + 1);
        StringBuilder after = new StringBuilder();
        rowsOf(x, after);
        Check.due(name + " changes nothing", after.toString(), rows.toString());
    }

    private static void rowsOf(Leastbag x, StringBuilder rows) {
        for (int bag = 0; bag < 4; bag++) {
            rows.append(x.orderOf(bag)).append(x.sorted(bag)).append('|');
        }
    }

    // ---- the promises

    private static void newObject() {
        Leastbag x = new Leastbag();
        for (int bag = 0; bag < 4; bag++) {
            Check.due("size of a new bag", x.size(bag), 0);
            Check.due("order of a new bag", x.orderOf(bag), 0);
        }
        Check.due("set of a new object", x.set(), "");
        for (int what = 0; what < 6; what++) {
            Check.due("house of a new object", x.house(what), what == 3 ? -1 : 0);
        }
        Check.due("order of the set of a new object", x.setOrder(0), 0);
    }

    private static void make() {
        Leastbag x = some();
        Check.due("make", x.make(1, 3, 60), 3);
        Check.due("make leaves none", x.size(1), 0);
        Check.due("make has its order", x.orderOf(1), 3);
        Check.due("make of an empty one", x.make(1, 0, 1), 0);
        x.fill(1, 30, 0, 1);
        Check.due("make with less room takes more too", x.fill(1, 30, 0, 1), 60);
        refuses("make without room", x, -9, () -> x.make(1, 2, 0));
        noSuchBag("make", x, bag -> x.make(bag, 0, 1));
        noSuchBag("make with a wrong order", x, bag -> x.make(bag, 4, 61));
        Check.raises("make with order 4", x, WRONG, () -> x.make(1, 4, 1));
        Check.raises("make with order -1", x, WRONG, () -> x.make(1, -1, 1));
        Check.raises("make with room 61", x, WRONG, () -> x.make(1, 0, 61));
        Check.raises("make with room -1", x, WRONG, () -> x.make(1, 0, -1));
        Check.raises("make without room, of order 4", x, WRONG, () -> x.make(1, 4, 0));
    }

    private static void makeLike() {
        Leastbag x = some();
        x.make(2, 1, 5);
        x.add(2, 9, 0);
        x.add(2, 50, 1);
        Check.due("makeLike", x.makeLike(1, 2), 2);
        Check.due("makeLike's things", x.sorted(1), "50b 9a");
        Check.due("makeLike's order", x.orderOf(1), 1);
        Check.due("makeLike leaves the other one", x.sorted(2), "50b 9a");
        x.poll(1);
        Check.due("makeLike's other one is another", x.sorted(2), "50b 9a");
        Check.due("makeLike of itself", x.makeLike(2, 2), 2);
        Check.due("makeLike of itself stays", x.sorted(2), "50b 9a");
        Check.due("makeLike of an empty one", x.makeLike(2, 3), 0);
        Check.due("makeLike of an empty one has its order", x.orderOf(2), 0);
        noSuchBag("makeLike", x, bag -> x.makeLike(bag, 0));
        noSuchBag("makeLike of", x, bag -> x.makeLike(0, bag));
    }

    private static void makeOfList() {
        Leastbag x = some();
        x.make(1, 2, 9);
        x.add(1, 1, 1);
        x.lay(30, 4);
        x.lay(2, 5);
        x.lay(30, 4);
        Check.due("makeOfList", x.makeOfList(1), 3);
        Check.due("makeOfList's order", x.orderOf(1), 0);
        Check.due("makeOfList's things", x.sorted(1), "2f 30e 30e");
        Check.due("makeOfList leaves the list", x.house(1), 3);
        Check.due("makeOfList of an empty list", new Leastbag().makeOfList(0), 0);
        noSuchBag("makeOfList", x, x::makeOfList);
    }

    private static void makeOfSet() {
        Leastbag x = some();
        x.join(30, 4);
        x.join(2, 5);
        x.setOrder(2);
        Check.due("makeOfSet", x.makeOfSet(1), 2);
        Check.due("makeOfSet's order", x.orderOf(1), 2);
        Check.due("makeOfSet's things", x.sorted(1), "30e 2f");
        x.setOrder(1);
        Check.due("makeOfSet's order is its own", x.orderOf(1), 2);
        x.poll(1);
        Check.due("makeOfSet leaves the set", x.set(), "30e 2f");
        Check.due("makeOfSet of an empty set", new Leastbag().makeOfSet(0), 0);
        noSuchBag("makeOfSet", x, x::makeOfSet);
    }

    private static void addAndOffer() {
        Leastbag x = with(58);
        Check.due("add", x.add(0, 0, 0), 59);
        Check.due("offer", x.offer(0, 99, 5), 60);
        Check.due("add's thing", x.nth(0, 0), "0a");
        Check.due("offer's thing", x.nth(0, 59), "99f");
        Check.raises("add beside 60", x, NO_ROOM, () -> x.add(0, 1, 1));
        Check.raises("offer beside 60", x, NO_ROOM, () -> x.offer(0, 1, 1));
        noSuchThing("add beside 60", x, (weight, letter) -> x.add(0, weight, letter));
        noSuchThing("offer beside 60", x, (weight, letter) -> x.offer(0, weight, letter));
        noSuchBag("add of nothing that is", x, bag -> x.add(bag, 100, 6));
        noSuchBag("offer of nothing that is", x, bag -> x.offer(bag, 100, 6));
        Check.due("add to another one", x.add(3, 5, 0), 1);
        Check.due("offer of one like it", x.offer(3, 5, 0), 2);
        Check.due("both are there", x.sorted(3), "5a 5a");
    }

    private static void fill() {
        Leastbag x = new Leastbag();
        Check.due("fill", x.fill(2, 8, 90, 6), 8);
        Check.due("fill's things", x.sorted(2), "2c 8d 14e 20f 26a 32b 90a 96b");
        Check.due("fill by 0", x.fill(3, 2, 5, 0), 2);
        Check.due("fill by 0's things", x.sorted(3), "5a 5b");
        Check.due("fill of none", x.fill(2, 0, 99, 99), 8);
        Check.due("fill of 30", x.fill(2, 30, 99, 99), 38);
        Check.due("fill up", x.fill(2, 22, 0, 1), 60);
        Check.due("fill of none into 60", x.fill(2, 0, 0, 0), 60);
        Check.raises("fill of one into 60", x, NO_ROOM, () -> x.fill(2, 1, 0, 0));
        Check.due("fill again", x.fill(3, 29, 0, 1), 31);
        Check.raises("fill of 30 into 31", x, NO_ROOM, () -> x.fill(3, 30, 0, 0));
        int[][] wrong = {{31, 0, 0}, {-1, 0, 0}, {1, -1, 0}, {1, 100, 0}, {1, 0, -1}, {1, 0, 100},
            {Integer.MAX_VALUE, 0, 0}, {Integer.MIN_VALUE, 0, 0}};
        for (int[] told : wrong) {
            Check.raises("fill with a wrong number", x, WRONG, () -> x.fill(2, told[0], told[1], told[2]));
        }
        noSuchBag("fill with wrong numbers", x, bag -> x.fill(bag, 31, 100, 100));
    }

    private static void addNothing() {
        Leastbag x = some();
        refuses("addNothing as with offer()", x, -9, () -> x.addNothing(1, true));
        refuses("addNothing as with add()", x, -9, () -> x.addNothing(1, false));
        Leastbag full = with(60);
        refuses("addNothing to 60", full, -9, () -> full.addNothing(0, false));
        noSuchBag("addNothing", x, bag -> x.addNothing(bag, true));
    }

    private static void addAll() {
        Leastbag x = some();
        x.make(2, 1, 1);
        x.add(2, 7, 5);
        Check.due("addAll", x.addAll(2, 1), 4);
        Check.due("addAll's things, by the order of the one", x.sorted(2), "40c 40c 7f 7f");
        Check.due("addAll leaves the other one", x.sorted(1), "7f 40c 40c");
        Check.due("addAll of an empty one", x.addAll(2, 3), 4);
        refuses("addAll of the same", x, -9, () -> x.addAll(1, 1));
        x.fill(0, 30, 0, 1);
        x.fill(3, 30, 0, 1);
        Check.due("addAll up to 60", x.addAll(3, 0), 60);
        x.clear(2);
        Check.due("addAll of none to 60", x.addAll(3, 2), 60);
        Check.raises("addAll beyond 60", x, NO_ROOM, () -> x.addAll(3, 1));
        Check.raises("addAll beyond 60 the other way", x, NO_ROOM, () -> x.addAll(1, 3));
        refuses("addAll of the same with 60", x, -9, () -> x.addAll(3, 3));
        noSuchBag("addAll", x, bag -> x.addAll(bag, 3));
        noSuchBag("addAll of", x, bag -> x.addAll(3, bag));
        noSuchBag("addAll of the same that is not", x, bag -> x.addAll(bag, bag));
    }

    private static void addList() {
        Leastbag x = with(57);
        Check.due("addList of an empty list", x.addList(0), 0);
        x.lay(99, 5);
        x.lay(0, 0);
        x.lay(99, 5);
        Check.due("addList", x.addList(0), 1);
        Check.due("addList's things are in", x.size(0), 60);
        Check.due("addList's things", x.count(0, 99, 5), 2);
        Check.due("addList leaves the list", x.house(1), 3);
        Check.raises("addList beyond 60", x, NO_ROOM, () -> x.addList(0));
        x.remove(0, 99, 5);
        Check.raises("addList of 3 to 59", x, NO_ROOM, () -> x.addList(0));
        noSuchBag("addList", x, x::addList);
        x.unlay();
        x.unlay();
        Check.due("addList of 1 to 59", x.addList(0), 1);
        x.unlay();
        Check.due("addList of none to 60", x.addList(0), 0);
    }

    private static void poll() {
        Leastbag x = some();
        Check.due("poll", x.poll(1), "7f");
        Check.due("poll of two like each other", x.poll(1), "40c");
        Check.due("poll takes one", x.sorted(1), "40c");
        x.poll(1);
        Check.due("poll of none", x.poll(1), "-");
        Check.due("poll of none is not counted", x.house(4), 0);
        x.make(1, 1, 4);
        x.fill(1, 4, 0, 33);
        Check.due("poll by another order", x.poll(1), "99d");
        noSuchBag("poll", x, x::poll);
    }

    private static void take() {
        Leastbag x = some();
        Check.due("take", x.take(1), "7f");
        Check.due("take takes one", x.sorted(1), "40c 40c");
        x.clear(1);
        refuses("take of none", x, "!", () -> x.take(1));
        noSuchBag("take", x, x::take);
    }

    private static void remove() {
        Leastbag x = some();
        Check.due("remove", x.remove(1, 40, 2), true);
        Check.due("remove takes one", x.sorted(1), "7f 40c");
        Check.due("remove of one with another letter", x.remove(1, 40, 3), false);
        Check.due("remove of one with another weight", x.remove(1, 41, 2), false);
        Check.due("remove of what is not there takes none", x.sorted(1), "7f 40c");
        Check.due("remove of none", x.remove(0, 0, 0), false);
        noSuchBag("remove of nothing that is", x, bag -> x.remove(bag, 100, 6));
        noSuchThing("remove", x, (weight, letter) -> x.remove(1, weight, letter));
        for (int order = 0; order < 4; order++) {
            Leastbag y = new Leastbag();
            y.make(0, order, 60);
            y.fill(0, 30, 0, 17);
            for (int k = 29; k >= 0; k--) {
                Check.due("remove by order " + order, y.remove(0, k * 17 % 100, k % 6), true);
            }
            Check.due("remove of all by order " + order, y.size(0), 0);
        }
    }

    private static void sweep() {
        String[] left = {"1b 49b 50c 51d 98e 99f", "0a 50c 51d 98e 99f", "0a 1b 49b 51d 98e 99f", "0a 1b 49b 50c 98e 99f",
            "0a 1b 49b 50c 51d 99f", "0a 1b 49b 50c 51d 98e", "1b 49b 51d 99f", "0a 50c 98e", "0a 1b 49b", ""};
        int[] taken = {1, 2, 1, 1, 1, 1, 3, 4, 4, 7};
        for (int kind = 0; kind < 10; kind++) {
            Leastbag x = kinds();
            Check.due("sweep of kind " + kind, x.sweep(1, kind), taken[kind]);
            Check.due("sweep of kind " + kind + " leaves", x.sorted(1), left[kind]);
            Check.due("sweep of kind " + kind + " again", x.sweep(1, kind), 0);
        }
        Leastbag x = kinds();
        noSuchBag("sweep of no kind", x, bag -> x.sweep(bag, 10));
        for (int kind : new int[] {-1, 10, Integer.MIN_VALUE, Integer.MAX_VALUE}) {
            Check.raises("sweep of kind " + kind, x, WRONG, () -> x.sweep(1, kind));
        }
    }

    /** A new object with things of all kinds in bag 1. */
    private static Leastbag kinds() {
        Leastbag x = new Leastbag();
        x.add(1, 0, 0);
        x.add(1, 1, 1);
        x.add(1, 49, 1);
        x.add(1, 50, 2);
        x.add(1, 51, 3);
        x.add(1, 98, 4);
        x.add(1, 99, 5);
        return x;
    }

    private static void clear() {
        Leastbag x = some();
        x.make(2, 3, 2);
        x.add(2, 1, 1);
        Check.due("clear", x.clear(1), 3);
        Check.due("clear leaves none", x.size(1), 0);
        Check.due("clear leaves other bags", x.size(2), 1);
        Check.due("clear again", x.clear(1), 0);
        x.clear(2);
        Check.due("clear leaves the order", x.orderOf(2), 3);
        noSuchBag("clear", x, x::clear);
    }

    private static void pollAll() {
        Leastbag x = some();
        Check.due("pollAll", x.pollAll(1), "7f 40c 40c");
        Check.due("pollAll leaves none", x.size(1), 0);
        Check.due("pollAll of none", x.pollAll(1), "");
        x.make(1, 3, 3);
        x.fill(1, 4, 12, 5);
        Check.due("pollAll by order 3", x.pollAll(1), "22c 12a 27d 17b");
        Check.due("pollAll leaves the order", x.orderOf(1), 3);
        noSuchBag("pollAll", x, x::pollAll);
    }

    private static void pour() {
        Leastbag x = some();
        x.make(2, 1, 1);
        x.add(2, 7, 5);
        Check.due("pour", x.pour(1, 2), 4);
        Check.due("pour's things, by the order of the other one", x.sorted(2), "40c 40c 7f 7f");
        Check.due("pour leaves none", x.size(1), 0);
        Check.due("pour of none", x.pour(1, 2), 4);
        refuses("pour of the same", x, -9, () -> x.pour(2, 2));
        x.fill(0, 30, 0, 1);
        x.fill(0, 27, 0, 1);
        Check.raises("pour beyond 60", x, NO_ROOM, () -> x.pour(2, 0));
        Check.raises("pour beyond 60 the other way", x, NO_ROOM, () -> x.pour(0, 2));
        x.poll(2);
        Check.due("pour up to 60", x.pour(2, 0), 60);
        Check.due("pour of none into 60", x.pour(1, 0), 60);
        refuses("pour of the same with 60", x, -9, () -> x.pour(0, 0));
        Check.due("pour of 60", x.pour(0, 3), 60);
        noSuchBag("pour", x, bag -> x.pour(bag, 3));
        noSuchBag("pour into", x, bag -> x.pour(3, bag));
        noSuchBag("pour of the same that is not", x, bag -> x.pour(bag, bag));
    }

    private static void untimely() {
        Leastbag x = some();
        refuses("untimely", x, -9, () -> x.untimely(1));
        refuses("untimely of none", x, -9, () -> x.untimely(0));
        noSuchBag("untimely", x, x::untimely);
    }

    private static void lay() {
        Leastbag x = new Leastbag();
        Check.due("lay", x.lay(5, 1), 1);
        Check.due("lay of one like it", x.lay(5, 1), 2);
        Check.due("lay behind", x.lay(1, 0), 3);
        Check.due("lay's thing", x.list(2), "1a");
        for (int k = 3; k < 20; k++) {
            Check.due("lay of more", x.lay(99, 5), k + 1);
        }
        Check.raises("lay beside 20", x, NO_ROOM, () -> x.lay(0, 0));
        noSuchThing("lay beside 20", x, x::lay);
    }

    private static void unlay() {
        Leastbag x = new Leastbag();
        Check.raises("unlay of none", x, NONE_THERE, x::unlay);
        x.lay(5, 1);
        x.lay(1, 0);
        Check.due("unlay", x.unlay(), 1);
        Check.due("unlay leaves those in front", x.list(0), "5b");
        Check.due("unlay of the last one", x.unlay(), 0);
        Check.raises("unlay of none again", x, NONE_THERE, x::unlay);
    }

    private static void join() {
        Leastbag x = new Leastbag();
        Check.due("join", x.join(5, 1), true);
        Check.due("join of one like it", x.join(5, 1), false);
        Check.due("join of one with another letter", x.join(5, 0), true);
        Check.due("join's things", x.set(), "5a 5b");
        for (int k = 2; k < 20; k++) {
            Check.due("join of more", x.join(k + 50, 5), true);
        }
        Check.raises("join beside 20", x, NO_ROOM, () -> x.join(0, 0));
        Check.raises("join beside 20 of one like it", x, NO_ROOM, () -> x.join(5, 1));
        noSuchThing("join beside 20", x, x::join);
    }

    private static void leave() {
        Leastbag x = new Leastbag();
        Check.due("leave of none", x.leave(5, 1), false);
        x.join(5, 1);
        x.join(9, 2);
        Check.due("leave of what is not there", x.leave(5, 2), false);
        Check.due("leave", x.leave(5, 1), true);
        Check.due("leave leaves the others", x.set(), "9c");
        Check.due("leave again", x.leave(5, 1), false);
        noSuchThing("leave", x, x::leave);
        x.join(11, 0);
        x.join(19, 0);
        x.setOrder(3);
        Check.due("leave behind another order", x.leave(11, 0), true);
        Check.due("leave behind another order leaves", x.set(), "19a 9c");
    }

    private static void setOrder() {
        Leastbag x = new Leastbag();
        x.join(12, 5);
        x.join(22, 0);
        x.join(3, 3);
        Check.due("setOrder", x.setOrder(1), 0);
        Check.due("the set by order 1", x.set(), "22a 12f 3d");
        Check.due("setOrder again", x.setOrder(2), 1);
        Check.due("the set by order 2", x.set(), "22a 3d 12f");
        Check.due("setOrder once more", x.setOrder(3), 2);
        Check.due("the set by order 3", x.set(), "22a 12f 3d");
        Check.due("setOrder back", x.setOrder(0), 3);
        Check.due("the set by order 0", x.set(), "3d 12f 22a");
        Check.due("setOrder to the same", x.setOrder(0), 0);
        for (int order : new int[] {-1, 4, Integer.MIN_VALUE, Integer.MAX_VALUE}) {
            Check.raises("setOrder to " + order, x, WRONG, () -> x.setOrder(order));
        }
    }

    private static void walk() {
        Leastbag x = some();
        Check.due("walk", x.walk(1), 3);
        Check.due("walk's bag", x.house(3), 1);
        x.step();
        Check.due("walk anew", x.walk(1), 3);
        Check.due("walk anew went over none", x.walked(0), 0);
        Check.due("walk through another one", x.walk(0), 0);
        Check.due("walk's other bag", x.house(3), 0);
        noSuchBag("walk", x, x::walk);
        Check.due("a walk that is refused ends none", x.house(3), 0);
    }

    /** An object with a walk through bag 1, whose things and those of others the call may change. */
    private static Leastbag walking() {
        Leastbag x = some();
        x.lay(3, 3);
        x.join(4, 4);
        x.walk(1);
        x.step();
        return x;
    }

    private interface Change {
        void of(Leastbag x);
    }

    private static void ends(String name, int walk, Change change) {
        Leastbag x = walking();
        change.of(x);
        Check.due("walk behind " + name, x.house(3), walk);
        Check.due("step behind " + name, Check.outcome(x::step), walk == 1 ? (Object) 2 : "throws.IllegalStateException");
    }

    private static void whatEndsTheWalk() {
        ends("make", -1, x -> x.make(1, 0, 1));
        ends("make without room", -1, x -> x.make(1, 0, 0));
        ends("makeLike", -1, x -> x.makeLike(1, 0));
        ends("makeLike of it", -1, x -> x.makeLike(0, 1));
        ends("makeLike of itself", -1, x -> x.makeLike(1, 1));
        ends("makeOfList", -1, x -> x.makeOfList(1));
        ends("makeOfSet", -1, x -> x.makeOfSet(1));
        ends("add", -1, x -> x.add(1, 0, 0));
        ends("offer", -1, x -> x.offer(1, 0, 0));
        ends("fill", -1, x -> x.fill(1, 1, 0, 0));
        ends("fill of none", -1, x -> x.fill(1, 0, 0, 0));
        ends("addNothing", -1, x -> x.addNothing(1, false));
        ends("addAll", -1, x -> x.addAll(1, 0));
        ends("addAll of it", -1, x -> x.addAll(0, 1));
        ends("addAll of itself", -1, x -> x.addAll(1, 1));
        ends("addList", -1, x -> x.addList(1));
        ends("addList of none", -1, x -> {
            x.unlay();
            x.addList(1);
        });
        ends("poll", -1, x -> x.poll(1));
        ends("take", -1, x -> x.take(1));
        ends("remove", -1, x -> x.remove(1, 7, 5));
        ends("remove of what is not there", -1, x -> x.remove(1, 0, 0));
        ends("sweep", -1, x -> x.sweep(1, 9));
        ends("sweep of what is not there", -1, x -> x.sweep(1, 0));
        ends("clear", -1, x -> x.clear(1));
        ends("pollAll", -1, x -> x.pollAll(1));
        ends("pour", -1, x -> x.pour(1, 0));
        ends("pour into it", -1, x -> x.pour(0, 1));
        ends("pour of itself", -1, x -> x.pour(1, 1));
        ends("untimely", -1, x -> x.untimely(1));
    }

    private static void whatDoesNotEndTheWalk() {
        ends("calls of other bags", 1, x -> {
            x.make(0, 0, 1);
            x.makeLike(0, 2);
            x.makeOfList(0);
            x.makeOfSet(2);
            x.add(0, 0, 0);
            x.offer(0, 0, 0);
            x.fill(0, 1, 0, 0);
            x.addNothing(0, true);
            x.addAll(0, 2);
            x.addList(0);
            x.poll(0);
            x.take(0);
            x.remove(0, 0, 0);
            x.sweep(0, 1);
            x.pour(0, 2);
            x.pollAll(2);
            x.clear(0);
            x.untimely(0);
        });
        ends("calls of the list and the set", 1, x -> {
            x.lay(1, 1);
            x.unlay();
            x.join(1, 1);
            x.leave(1, 1);
            x.setOrder(2);
        });
        ends("calls that ask", 1, x -> {
            x.peek(1);
            x.element(1);
            x.contains(1, 7, 5);
            x.count(1, 7, 5);
            x.total(1, 9, true);
            x.size(1);
            x.isEmpty(1);
            x.orderOf(1);
            x.ahead(1, 0, 0, 1, 1);
            x.sorted(1);
            x.nth(1, 0);
            x.areAlike(1, 0);
            x.beyond(1);
            x.list(0);
            x.set();
            x.house(0);
            x.knock();
            x.isSound();
            x.digest();
            x.isMore();
            x.walked(1);
        });
        ends("calls that throw", 1, x -> {
            Check.raises("make", x, WRONG, () -> x.make(1, 4, 1));
            Check.raises("makeLike", x, NO_BAG, () -> x.makeLike(1, 4));
            Check.raises("add", x, WRONG, () -> x.add(1, 100, 0));
            Check.raises("offer", x, WRONG, () -> x.offer(1, 100, 0));
            Check.raises("fill", x, WRONG, () -> x.fill(1, 31, 0, 0));
            Check.raises("addAll", x, NO_BAG, () -> x.addAll(1, 4));
            Check.raises("remove", x, WRONG, () -> x.remove(1, 100, 0));
            Check.raises("sweep", x, WRONG, () -> x.sweep(1, 10));
            Check.raises("pour", x, NO_BAG, () -> x.pour(1, 4));
            Check.raises("walk", x, NO_BAG, () -> x.walk(4));
            x.fill(0, 30, 0, 0);
            x.fill(0, 30, 0, 0);
            Check.raises("addAll of 60", x, NO_ROOM, () -> x.addAll(1, 0));
            Check.raises("pour into 60", x, NO_ROOM, () -> x.pour(1, 0));
        });
        Leastbag full = with(60);
        full.lay(0, 0);
        full.walk(0);
        Check.raises("add to 60", full, NO_ROOM, () -> full.add(0, 0, 0));
        Check.raises("fill into 60", full, NO_ROOM, () -> full.fill(0, 1, 0, 0));
        Check.raises("addList to 60", full, NO_ROOM, () -> full.addList(0));
        Check.due("walk through 60 stays", full.house(3), 0);
    }

    private static void step() {
        Leastbag x = some();
        Check.raises("step without a walk", x, NONE_THERE, x::step);
        x.walk(1);
        Check.due("step", x.step(), 1);
        Check.due("step again", x.step(), 2);
        Check.due("the last step", x.step(), 3);
        refuses("step behind the last one", x, -9, x::step);
        refuses("step behind the last one again", x, -9, x::step);
        Check.due("the walk stays", x.walked(0), 3);
        x.walk(0);
        refuses("step through none", x, -9, x::step);
    }

    private static void isMore() {
        Leastbag x = some();
        Check.due("isMore without a walk", x.isMore(), false);
        x.walk(0);
        Check.due("isMore through none", x.isMore(), false);
        x.walk(1);
        Check.due("isMore", x.isMore(), true);
        x.step();
        x.step();
        Check.due("isMore ahead of the last one", x.isMore(), true);
        x.step();
        Check.due("isMore behind the last one", x.isMore(), false);
        x.walk(1);
        x.poll(1);
        Check.due("isMore behind the end", x.isMore(), false);
        for (int bag = 0; bag < 4; bag++) {
            Leastbag y = new Leastbag();
            y.add(bag, 0, 0);
            y.walk(bag);
            Check.due("isMore through bag " + bag, y.isMore(), true);
            y.step();
            Check.due("isMore behind all of bag " + bag, y.isMore(), false);
        }
    }

    private static void walked() {
        Leastbag x = some();
        Check.raises("walked(0) without a walk", x, NONE_THERE, () -> x.walked(0));
        Check.raises("walked(2) without a walk", x, WRONG, () -> x.walked(2));
        Check.raises("walked(-1) without a walk", x, WRONG, () -> x.walked(-1));
        x.walk(1);
        Check.due("walked(0) ahead of all", x.walked(0), 0);
        Check.due("walked(1) ahead of all", x.walked(1), -1);
        x.step();
        x.step();
        Check.due("walked(0)", x.walked(0), 2);
        Check.due("walked(1)", x.walked(1), -1);
        x.step();
        x.step();
        Check.due("walked(0) behind all", x.walked(0), 3);
        Check.due("walked(1) behind all", x.walked(1), 87);
        Check.raises("walked(2)", x, WRONG, () -> x.walked(2));
        x.walk(1);
        x.step();
        x.step();
        x.step();
        Check.due("walked(1) behind all anew", x.walked(1), 87);
        x.walk(0);
        Check.due("walked(1) through none", x.walked(1), 0);
    }

    private static void peek() {
        Leastbag x = some();
        Check.due("peek", x.peek(1), "7f");
        Check.due("peek leaves it", x.size(1), 3);
        Check.due("peek of none", x.peek(0), "-");
        Check.due("peek of none is not counted", x.house(4), 0);
        x.make(1, 2, 3);
        x.fill(1, 6, 0, 11);
        x.add(1, 99, 0);
        Check.due("peek by order 2", x.peek(1), "0a");
        noSuchBag("peek", x, x::peek);
    }

    private static void element() {
        Leastbag x = some();
        Check.due("element", x.element(1), "7f");
        Check.due("element leaves it", x.size(1), 3);
        refuses("element of none", x, "!", () -> x.element(0));
        noSuchBag("element", x, x::element);
        x.walk(0);
        x.element(0);
        Check.due("element of none does not end a walk", x.house(3), 0);
    }

    private static void contains() {
        Leastbag x = some();
        Check.due("contains", x.contains(1, 7, 5), true);
        Check.due("contains one with another letter", x.contains(1, 7, 4), false);
        Check.due("contains one with another weight", x.contains(1, 8, 5), false);
        Check.due("contains of none", x.contains(0, 7, 5), false);
        noSuchBag("contains of nothing that is", x, bag -> x.contains(bag, 100, 6));
        noSuchThing("contains", x, (weight, letter) -> x.contains(1, weight, letter));
    }

    private static void count() {
        Leastbag x = some();
        Check.due("count of two", x.count(1, 40, 2), 2);
        Check.due("count of one", x.count(1, 7, 5), 1);
        Check.due("count of what is not there", x.count(1, 40, 1), 0);
        Check.due("count of none", x.count(0, 40, 2), 0);
        for (int k = 0; k < 57; k++) {
            x.add(1, 40, 2);
        }
        Check.due("count of 59", x.count(1, 40, 2), 59);
        noSuchBag("count of nothing that is", x, bag -> x.count(bag, 100, 6));
        noSuchThing("count", x, (weight, letter) -> x.count(1, weight, letter));
    }

    private static void total() {
        int[] many = {1, 2, 1, 1, 1, 1, 3, 4, 4, 7};
        int[] weights = {0, 50, 50, 51, 98, 99, 148, 200, 298, 348};
        Leastbag x = kinds();
        for (int kind = 0; kind < 10; kind++) {
            Check.due("total of kind " + kind, x.total(1, kind, false), many[kind]);
            Check.due("total weight of kind " + kind, x.total(1, kind, true), weights[kind]);
            Check.due("total of none", x.total(0, kind, true), 0);
        }
        noSuchBag("total of no kind", x, bag -> x.total(bag, 10, true));
        for (int kind : new int[] {-1, 10, Integer.MIN_VALUE, Integer.MAX_VALUE}) {
            Check.raises("total of kind " + kind, x, WRONG, () -> x.total(1, kind, false));
        }
    }

    private static void size() {
        Leastbag x = with(60);
        Check.due("size of 60", x.size(0), 60);
        Check.due("size of none", x.size(1), 0);
        x.add(1, 0, 0);
        Check.due("size of one", x.size(1), 1);
        noSuchBag("size", x, x::size);
    }

    private static void isEmpty() {
        Leastbag x = some();
        Check.due("isEmpty", x.isEmpty(1), false);
        Check.due("isEmpty of none", x.isEmpty(0), true);
        x.clear(1);
        Check.due("isEmpty behind clear", x.isEmpty(1), true);
        noSuchBag("isEmpty", x, x::isEmpty);
    }

    private static void orderOf() {
        Leastbag x = new Leastbag();
        for (int order = 3; order >= 0; order--) {
            x.make(order, order, 1);
        }
        for (int bag = 0; bag < 4; bag++) {
            Check.due("orderOf", x.orderOf(bag), bag);
        }
        noSuchBag("orderOf", x, x::orderOf);
    }

    private static void ahead() {
        Leastbag x = new Leastbag();
        for (int bag = 0; bag < 4; bag++) {
            x.make(bag, bag, 1);
        }
        // two things, then what is due by each order
        int[][] rows = {{5, 0, 7, 0, -1, 1, -1, -1}, {5, 1, 5, 0, 1, -1, 1, 1}, {15, 0, 7, 1, 1, -1, -1, -1},
            {15, 0, 5, 0, 1, -1, 1, -1}, {10, 5, 9, 0, 1, -1, 1, -1}, {99, 5, 99, 5, 0, 0, 0, 0}, {0, 0, 99, 5, -1, 1, -1, -1},
            {41, 3, 50, 2, -1, 1, 1, 1}};
        for (int[] row : rows) {
            for (int bag = 0; bag < 4; bag++) {
                String call = row[0] + ", " + row[1] + ", " + row[2] + ", " + row[3] + " by order " + bag;
                Check.due("ahead of " + call, x.ahead(bag, row[0], row[1], row[2], row[3]), row[4 + bag]);
                Check.due("ahead turned of " + call, x.ahead(bag, row[2], row[3], row[0], row[1]), -row[4 + bag]);
            }
        }
        noSuchBag("ahead of nothing that is", x, bag -> x.ahead(bag, 100, 6, 100, 6));
        noSuchThing("ahead", x, (weight, letter) -> x.ahead(0, weight, letter, 0, 0));
        noSuchThing("ahead of another one", x, (weight, letter) -> x.ahead(0, 0, 0, weight, letter));
    }

    private static void sorted() {
        String[] rows = {"0a 1b 49b 50c 51d 98e 99f", "99f 98e 51d 50c 49b 1b 0a", "0a 1b 49b 50c 51d 98e 99f",
            "50c 0a 51d 1b 98e 99f 49b"};
        Leastbag x = kinds();
        for (int order = 0; order < 4; order++) {
            x.make(2, order, 60);
            x.addAll(2, 1);
            Check.due("sorted by order " + order, x.sorted(2), rows[order]);
        }
        x.make(2, 2, 60);
        x.add(2, 0, 5);
        x.add(2, 99, 0);
        x.add(2, 98, 0);
        x.add(2, 98, 0);
        Check.due("sorted by letters", x.sorted(2), "98a 98a 99a 0f");
        Check.due("sorted leaves them", x.size(2), 4);
        Check.due("sorted of none", x.sorted(0), "");
        noSuchBag("sorted", x, x::sorted);
    }

    private static void nth() {
        Leastbag x = some();
        Check.due("nth(0)", x.nth(1, 0), "7f");
        Check.due("nth(1)", x.nth(1, 1), "40c");
        Check.due("nth(2)", x.nth(1, 2), "40c");
        Check.due("nth leaves them", x.size(1), 3);
        for (int k : new int[] {-1, 3, 60, Integer.MIN_VALUE, Integer.MAX_VALUE}) {
            Check.raises("nth(" + k + ")", x, NO_PLACE, () -> x.nth(1, k));
        }
        Check.raises("nth of none", x, NO_PLACE, () -> x.nth(0, 0));
        noSuchBag("nth", x, bag -> x.nth(bag, 0));
    }

    private static void areAlike() {
        Leastbag x = some();
        x.make(2, 1, 1);
        x.addAll(2, 1);
        Check.due("areAlike by two orders", x.areAlike(1, 2), true);
        Check.due("areAlike of the same", x.areAlike(1, 1), true);
        Check.due("areAlike of none", x.areAlike(0, 3), true);
        Check.due("areAlike of some and none", x.areAlike(1, 0), false);
        x.remove(2, 40, 2);
        Check.due("areAlike of three and two", x.areAlike(1, 2), false);
        Check.due("areAlike of two and three", x.areAlike(2, 1), false);
        x.add(2, 7, 5);
        Check.due("areAlike of as many, others twice", x.areAlike(1, 2), false);
        Check.due("areAlike the other way", x.areAlike(2, 1), false);
        x.make(2, 0, 1);
        x.addAll(2, 1);
        x.remove(2, 7, 5);
        x.add(2, 8, 5);
        Check.due("areAlike but for the first one", x.areAlike(1, 2), false);
        x.makeLike(2, 1);
        x.remove(2, 40, 2);
        x.add(2, 41, 2);
        Check.due("areAlike but for the last one", x.areAlike(1, 2), false);
        noSuchBag("areAlike", x, bag -> x.areAlike(bag, 1));
        noSuchBag("areAlike with", x, bag -> x.areAlike(1, bag));
    }

    private static void beyond() {
        Leastbag x = with(60);
        Check.due("beyond of 60", x.beyond(0), 60);
        Check.due("beyond of none", x.beyond(1), 0);
        Check.due("beyond is not counted", x.house(4), 0);
        Check.due("beyond leaves them", x.size(0), 60);
        noSuchBag("beyond", x, x::beyond);
    }

    private static void list() {
        Leastbag x = new Leastbag();
        Check.raises("list of none", x, NO_PLACE, () -> x.list(0));
        x.lay(50, 1);
        x.lay(5, 0);
        x.lay(50, 1);
        Check.due("list(0)", x.list(0), "50b");
        Check.due("list(1)", x.list(1), "5a");
        Check.due("list(2)", x.list(2), "50b");
        for (int k : new int[] {-1, 3, 20, Integer.MIN_VALUE, Integer.MAX_VALUE}) {
            Check.raises("list(" + k + ")", x, NO_PLACE, () -> x.list(k));
        }
    }

    private static void set() {
        Leastbag x = new Leastbag();
        Check.due("set of none", x.set(), "");
        x.join(50, 1);
        x.join(5, 2);
        x.join(50, 0);
        Check.due("set", x.set(), "5c 50a 50b");
        x.setOrder(1);
        x.join(60, 0);
        Check.due("set by order 1", x.set(), "60a 50b 50a 5c");
    }

    private static void house() {
        Leastbag x = some();
        x.add(0, 1, 1);
        x.lay(1, 1);
        x.lay(1, 1);
        x.join(1, 1);
        Check.due("house(0)", x.house(0), 4);
        Check.due("house(1)", x.house(1), 2);
        Check.due("house(2)", x.house(2), 1);
        Check.due("house(3) without a walk", x.house(3), -1);
        x.walk(2);
        Check.due("house(3)", x.house(3), 2);
        x.make(2, 0, 0);
        x.addNothing(2, true);
        x.addAll(2, 2);
        x.take(2);
        x.pour(2, 2);
        x.untimely(2);
        x.walk(2);
        x.step();
        x.element(2);
        Check.due("house(4)", x.house(4), 8);
        x.poll(2);
        x.peek(2);
        x.beyond(2);
        x.pollAll(2);
        x.isSound();
        x.digest();
        Check.due("house(4) of others", x.house(4), 8);
        Check.due("house(5)", x.house(5), 0);
        x.knock();
        Check.due("house(5) behind a knock", x.house(5), 1);
        for (int what : new int[] {-1, 6, Integer.MIN_VALUE, Integer.MAX_VALUE}) {
            Check.raises("house(" + what + ")", x, WRONG, () -> x.house(what));
        }
    }

    private static void knock() {
        Leastbag x = new Leastbag();
        Check.due("knock", x.knock(), 1);
        Check.due("knock again", x.knock(), 2);
        Check.due("knock at another one", new Leastbag().knock(), 1);
    }

    private static void isSound() {
        Leastbag x = with(60);
        Check.due("isSound of new ones", new Leastbag().isSound(), true);
        for (int bag = 1; bag < 4; bag++) {
            x.make(bag, bag, 60);
            x.addAll(bag, 0);
        }
        Check.due("isSound of 60", x.isSound(), true);
        x.sweep(2, 8);
        x.pour(3, 3);
        Check.due("isSound behind more", x.isSound(), true);
        Check.due("isSound leaves all", x.size(0) + x.size(1) + x.size(3), 180);
    }

    private static void digest() {
        // 7734; house 0 0 0 -1 0 0; four times: size 0, order 0, "-", ten kinds of 0 and 0; no walk; sound
        long d = 7734;
        for (int v : new int[] {0, 0, 0, -1, 0, 0}) {
            d = d * 31 + v;
        }
        for (int bag = 0; bag < 4; bag++) {
            d = (d * 31 * 31) * 31 + '-';
            for (int k = 0; k < 20; k++) {
                d *= 31;
            }
        }
        d = d * 31 * 31 + 1;
        Leastbag x = new Leastbag();
        Check.due("digest of a new object", x.digest(), d);
        Check.due("digest again", x.digest(), d);
        x.knock();
        Check.due("digest behind a knock is another", x.digest() == d, false);
        digestOfMore();
    }

    private static void digestOfMore() {
        Leastbag x = some();
        x.make(2, 3, 1);
        x.fill(2, 30, 7, 31);
        x.lay(88, 4);
        x.lay(3, 0);
        x.setOrder(1);
        x.join(5, 5);
        x.join(61, 1);
        x.knock();
        x.untimely(0);
        x.walk(1);
        for (int left = 3; left >= 0; left--) {
            Check.due("digest with a walk that has " + left + " left", x.digest(), digestByOtherCalls(x, 2));
            x.step();
        }
    }

    private static long digestByOtherCalls(Leastbag x, int laid) {
        long d = 7734;
        for (int what = 0; what <= 5; what++) {
            d = d * 31 + x.house(what);
        }
        for (int bag = 0; bag < 4; bag++) {
            d = d * 31 + x.size(bag);
            d = d * 31 + x.orderOf(bag);
            d = signs(signs(d, x.peek(bag)), x.sorted(bag));
            for (int kind = 0; kind <= 9; kind++) {
                d = d * 31 + x.total(bag, kind, false);
                d = d * 31 + x.total(bag, kind, true);
            }
        }
        for (int k = 0; k < laid; k++) {
            d = signs(d, x.list(k));
        }
        d = signs(d, x.set());
        d = d * 31 + (x.isMore() ? 1 : 0);
        return d * 31 + (x.isSound() ? 1 : 0);
    }

    private static long signs(long d, String text) {
        long mix = d;
        for (int k = 0; k < text.length(); k++) {
            mix = mix * 31 + text.charAt(k);
        }
        return mix;
    }
}
