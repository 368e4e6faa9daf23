/**
 * Promise by promise each sentence that names a boundary: too small, too large, none, one, full, the
 * last that is let and the first that is not, and what a call that throws or is refused leaves as it
 * was. A label begins with the promise's number. Those of "Description" stand in DescriptionTest.
 */
public final class BoundaryTest {
    private static final Class<IndexOutOfBoundsException> BOUNDS = IndexOutOfBoundsException.class;
    private static final Class<IllegalArgumentException> ARGUMENT = IllegalArgumentException.class;
    private static final Class<IllegalStateException> STATE = IllegalStateException.class;

    public static void main(String[] args) {
        newObject();
        make();
        makeLike();
        makeOfList();
        makeOfSet();
        add();
        offer();
        fill();
        addNothing();
        addAll();
        addList();
        poll();
        take();
        remove();
        sweep();
        clear();
        pollAll();
        pour();
        untimely();
        lay();
        unlay();
        join();
        leave();
        setOrder();
        walk();
        step();
        isMore();
        walked();
        peek();
        element();
        contains();
        count();
        total();
        size();
        isEmpty();
        orderOf();
        ahead();
        sorted();
        nth();
        areAlike();
        beyond();
        list();
        set();
        house();
        knock();
        isSound();
        digest();
        Check.end("BoundaryTest");
    }

    // ---- made

    private static void newObject() {
        Leastbag x = new Leastbag();
        for (int bag = 0; bag < 4; bag++) {
            Check.due("1 new: size of bag " + bag, x.size(bag), 0);
            Check.due("1 new: isEmpty of bag " + bag, x.isEmpty(bag), true);
            Check.due("1 new: peek of bag " + bag, x.peek(bag), "-");
            Check.due("1 new: sorted of bag " + bag, x.sorted(bag), "");
        }
        Check.raises("1 new: there is no bag 4", x, BOUNDS, () -> x.size(4));
        x.add(0, 1, 1);
        x.lay(2, 2);
        x.join(3, 3);
        x.untimely(1);
        x.knock();
        x.walk(0);
        Check.due("1 new: another one knows nothing of the first", Look.at(new Leastbag()),
                new Look(Look.at(Edge.none()).things(), Look.NO_WALK, 0));
        Check.due("1 new: the first one keeps its things", x.sorted(0) + x.list(0) + x.set(), "1b2c3d");
    }

    private static void make() {
        Edge.bounds("2 make: bag", 0, 3, BOUNDS, (x, bag) -> x.make(bag, 0, 1));
        Edge.bounds("2 make: order", 0, 3, ARGUMENT, (x, order) -> x.make(1, order, 1));
        Edge.bounds("2 make: room", 0, 60, ARGUMENT, (x, room) -> x.make(1, 0, room));
        Edge.bounds("2 make: bag, without room", 0, 3, BOUNDS, (x, bag) -> x.make(bag, 0, 0));
        Edge.bounds("2 make: order, without room", 0, 3, ARGUMENT, (x, order) -> x.make(1, order, 0));
        Edge.outside("2 make: bag, with a wrong order", 0, 3, BOUNDS, (x, bag) -> x.make(bag, 4, 1));
        Edge.outside("2 make: bag, with a wrong room", 0, 3, BOUNDS, (x, bag) -> x.make(bag, 0, 61));
        Edge.refuses("2 make: -9 if room is 0", Edge::some, -9, true, x -> x.make(1, 3, 0));
        Edge.refuses("2 make: -9 if room is 0, of another one", Edge::some, -9, false, x -> x.make(3, 1, 0));
        Edge.refuses("2 make: -9 if room is 0, of 60", Edge::full, -9, false, x -> x.make(3, 1, 0));
        Edge.refuses("2 make: -9 if room is 0, of none", Edge::none, -9, false, x -> x.make(0, 2, 0));
        for (int room : new int[] {1, 2, 59, 60}) {
            Leastbag x = Edge.lets("2 make: how many it had", Edge::full, 60, y -> y.make(3, 2, room));
            Check.due("2 make: without things", x.size(3) + x.sorted(3) + x.peek(3), "0-");
            Check.due("2 make: its order", x.orderOf(3), 2);
            Check.due("2 make: the others stay", x.house(0), 180);
            Edge.fillTo(x, 3, 60);
            Check.due("2 make: more than the room will do, too", x.size(3), 60);
            Check.due("2 make: but not more than 60", Check.outcome(() -> x.add(3, 0, 0)), "throws.IllegalStateException");
        }
        Edge.lets("2 make: of one", () -> Edge.one(1), 1, x -> x.make(1, 0, 1));
        Edge.endsOnlyTheWalk("2 make: of none, by its own order", () -> Edge.one(0), 0, x -> x.make(1, 2, 1));
    }

    private static void makeLike() {
        Edge.bounds("3 makeLike: bag", 0, 3, BOUNDS, (x, bag) -> x.makeLike(bag, 1));
        Edge.bounds("3 makeLike: other", 0, 3, BOUNDS, (x, other) -> x.makeLike(1, other));
        Edge.bounds("3 makeLike: both", 0, 3, BOUNDS, (x, bag) -> x.makeLike(bag, bag));
        for (int many : new int[] {0, 1, 59, 60}) {
            Leastbag x = Edge.lets("3 makeLike: how many it has", () -> Edge.two(7, many), many, y -> y.makeLike(1, 2));
            Check.due("3 makeLike: the things of the other one", x.sorted(1), Edge.two(7, many).sorted(2));
            Check.due("3 makeLike: its order", x.orderOf(1), 3);
            Check.due("3 makeLike: the other one stays", x.sorted(2) + x.orderOf(2), Edge.two(7, many).sorted(2) + 3);
            x.clear(1);
            Check.due("3 makeLike: the other one does not go with it", x.size(2), many);
            x.makeLike(1, 2);
            x.make(2, 1, 1);
            Check.due("3 makeLike: it does not go with the other one", x.size(1) + " " + x.orderOf(1), many + " 3");
            Edge.endsOnlyTheWalk("3 makeLike: of itself nothing is other", () -> Edge.one(many), many, y -> y.makeLike(1, 1));
        }
    }

    private static void makeOfList() {
        Edge.bounds("4 makeOfList: bag", 0, 3, BOUNDS, (x, bag) -> x.makeOfList(bag));
        for (int laid : new int[] {0, 1, 20}) {
            for (int many : new int[] {0, 60}) {
                Leastbag x = Edge.lets("4 makeOfList: how many it has", () -> Edge.listed(many, laid), laid, y -> y.makeOfList(1));
                Check.due("4 makeOfList: the order 0", x.orderOf(1), 0);
                Check.due("4 makeOfList: all of the list, and no others", x.total(1, 5, false) + x.size(1), laid * 2);
                Check.due("4 makeOfList: the list stays", x.house(1), laid);
                Check.due("4 makeOfList: the set's order is not taken", x.orderOf(1) + x.setOrder(0), 0);
                x.clear(1);
                Check.due("4 makeOfList: the list does not go with it", x.house(1), laid);
            }
        }
        Leastbag x = Edge.lets("4 makeOfList: with those that are like each other", Edge::some, 3, y -> y.makeOfList(1));
        Check.due("4 makeOfList: both are there", x.sorted(1) + "," + x.count(1, 30, 4), "2f 30e 30e,2");
        x.unlay();
        Check.due("4 makeOfList: it does not go with the list", x.size(1), 3);
    }

    private static void makeOfSet() {
        Edge.bounds("5 makeOfSet: bag", 0, 3, BOUNDS, (x, bag) -> x.makeOfSet(bag));
        for (int many : new int[] {0, 1, 20}) {
            for (int order = 0; order < 4; order++) {
                Leastbag x = Edge.joined(many);
                x.make(3, 3 - order, 5);
                x.fill(3, 5, 1, 1);
                x.setOrder(order);
                Check.due("5 makeOfSet: how many it has", x.makeOfSet(3), many);
                Check.due("5 makeOfSet: its order, also without things", x.orderOf(3), order);
                Check.due("5 makeOfSet: all its things, and no others", x.sorted(3), x.set());
                Check.due("5 makeOfSet: the set stays", x.house(2), many);
                String row = x.sorted(3);
                x.setOrder(3 - order);
                x.leave(0, 0);
                Check.due("5 makeOfSet: it does not go with the set", x.sorted(3) + x.orderOf(3), row + order);
                x.clear(3);
                Check.due("5 makeOfSet: the set does not go with it", x.house(2), Math.max(many - 1, 0));
            }
        }
    }

    // ---- in

    private interface Put {
        int of(Leastbag x, int bag, int weight, int letter);
    }

    private static void add() {
        putIn("6 add", Leastbag::add);
    }

    private static void offer() {
        putIn("7 offer", Leastbag::offer);
    }

    private static void putIn(String name, Put put) {
        Edge.bounds(name + ": bag", 0, 3, BOUNDS, (x, bag) -> put.of(x, bag, 0, 0));
        Edge.bounds(name + ": weight", 0, 99, ARGUMENT, (x, weight) -> put.of(x, 1, weight, 0));
        Edge.bounds(name + ": letter", 0, 5, ARGUMENT, (x, letter) -> put.of(x, 1, 0, letter));
        for (State room : new State[] {new State(0, 1), new State(1, 2), new State(58, 59), new State(59, 60)}) {
            Leastbag x = Edge.lets(name + ": how many there are then", () -> Edge.one(room.many), room.then,
                    y -> put.of(y, 1, 99, 5));
            Check.due(name + ": is put in", x.count(1, 99, 5), 1);
            Check.due(name + ": the others stay", x.size(1), room.then);
        }
        Edge.raises(name + ": if there are 60", () -> Edge.one(60), STATE, x -> put.of(x, 1, 0, 0));
        Edge.raises(name + ": if there are 60, with a walk of it", Edge::full, STATE, x -> put.of(x, 0, 0, 0));
        Edge.raises(name + ": if there are 60, one that is like one", Edge::full, STATE, x -> put.of(x, 3, 5, 0));
        Edge.lets(name + ": 60 of another one do not matter", () -> Edge.two(3, 60), 4, x -> put.of(x, 1, 0, 0));
        Leastbag x = Edge.lets(name + ": one that is like another one", Edge::some, 4, y -> put.of(y, 1, 40, 2));
        Check.due(name + ": both stay", x.count(1, 40, 2), 3);
    }

    private record State(int many, int then) {
    }

    private static void fill() {
        Edge.bounds("8 fill: bag", 0, 3, BOUNDS, (x, bag) -> x.fill(bag, 1, 0, 0));
        Edge.bounds("8 fill: many", 0, 30, ARGUMENT, (x, many) -> x.fill(1, many, 0, 0));
        Edge.bounds("8 fill: from", 0, 99, ARGUMENT, (x, from) -> x.fill(1, 1, from, 0));
        Edge.bounds("8 fill: by", 0, 99, ARGUMENT, (x, by) -> x.fill(1, 1, 0, by));
        Edge.bounds("8 fill: from, of none", 0, 99, ARGUMENT, (x, from) -> x.fill(1, 0, from, 0));
        Edge.bounds("8 fill: by, of none", 0, 99, ARGUMENT, (x, by) -> x.fill(1, 0, 0, by));
        for (int[] told : new int[][] {{30, 30}, {31, 29}, {59, 1}, {60, 0}, {0, 30}, {0, 1}, {59, 0}, {0, 0}, {45, 14}}) {
            Edge.lets("8 fill: " + told[1] + " to " + told[0], () -> Edge.one(told[0]), told[0] + told[1],
                    x -> x.fill(1, told[1], 8, 9));
        }
        for (int[] told : new int[][] {{31, 30}, {32, 29}, {59, 2}, {60, 1}, {60, 30}, {45, 16}}) {
            Edge.raises("8 fill: would be more than 60, " + told[1] + " to " + told[0], () -> Edge.one(told[0]), STATE,
                    x -> x.fill(1, told[1], 8, 9));
        }
        Edge.endsOnlyTheWalk("8 fill: none", () -> Edge.one(4), 4, x -> x.fill(1, 0, 99, 99));
        Edge.lets("8 fill: 60 of another one do not matter", () -> Edge.two(3, 60), 33, x -> x.fill(1, 30, 0, 0));
        filled("the weight 99, and then modulo 100", 3, 98, 1, "0c 98a 99b");
        filled("modulo 100 by 99", 3, 1, 99, "0b 1a 99c");
        filled("exactly 100", 2, 50, 50, "0b 50a");
        filled("by 0", 2, 99, 0, "99a 99b");
        filled("one", 1, 99, 99, "99a");
        filled("the letter modulo 6", 8, 0, 10, "0a 10b 20c 30d 40e 50f 60a 70b");
        Leastbag x = Edge.none();
        x.fill(0, 30, 99, 99);
        Check.due("8 fill: the last of 30, 2970 modulo 100", x.count(0, 70, 5), 1);
        Check.due("8 fill: five of each letter", x.total(0, 0, false) + " " + x.total(0, 5, false), "5 5");
    }

    private static void filled(String what, int many, int from, int by, String row) {
        Leastbag x = Edge.lets("8 fill: " + what, Edge::none, many, y -> y.fill(2, many, from, by));
        Check.due("8 fill: the row, " + what, x.sorted(2), row);
    }

    private static void addNothing() {
        for (boolean isOffered : new boolean[] {false, true}) {
            String name = "9 addNothing: as with " + (isOffered ? "offer" : "add");
            Edge.bounds(name + ", bag", 0, 3, BOUNDS, (x, bag) -> x.addNothing(bag, isOffered));
            Edge.refuses(name, Edge::some, -9, true, x -> x.addNothing(1, isOffered));
            Edge.refuses(name + ", another one", Edge::some, -9, false, x -> x.addNothing(2, isOffered));
            Edge.refuses(name + ", none", Edge::none, -9, false, x -> x.addNothing(3, isOffered));
            Edge.refuses(name + ", 60", Edge::full, -9, true, x -> x.addNothing(0, isOffered));
        }
    }

    private static void addAll() {
        Edge.bounds("10 addAll: bag", 0, 3, BOUNDS, (x, bag) -> x.addAll(bag, 1));
        Edge.bounds("10 addAll: other", 0, 3, BOUNDS, (x, other) -> x.addAll(1, other));
        Edge.bounds("10 addAll: both the same", 0, 3, BOUNDS, (x, bag) -> x.addAll(bag, bag));
        for (int many : new int[] {0, 1, 30, 31, 60}) {
            Edge.refuses("10 addAll: -9 if both are the same, " + many, () -> Edge.one(many), -9, true, x -> x.addAll(1, 1));
        }
        Edge.refuses("10 addAll: -9 if both are the same, another one", Edge::some, -9, false, x -> x.addAll(3, 3));
        for (int[] told : new int[][] {{30, 30}, {0, 60}, {60, 0}, {1, 59}, {59, 1}, {0, 1}, {0, 0}}) {
            Leastbag x = Edge.lets("10 addAll: " + told[1] + " to " + told[0], () -> Edge.two(told[0], told[1]),
                    told[0] + told[1], y -> y.addAll(1, 2));
            Check.due("10 addAll: the other one stays", x.sorted(2) + x.orderOf(2), Edge.two(told[0], told[1]).sorted(2) + 3);
            Check.due("10 addAll: the order stays", x.orderOf(1), 2);
            int weights = Edge.two(told[0], told[1]).total(1, 9, true) + x.total(2, 9, true);
            Check.due("10 addAll: things like all of it are in", x.total(1, 9, true), weights);
        }
        for (int[] told : new int[][] {{30, 31}, {31, 30}, {60, 1}, {1, 60}, {60, 60}}) {
            Edge.raises("10 addAll: would be more than 60, " + told[1] + " to " + told[0],
                    () -> Edge.two(told[0], told[1]), STATE, x -> x.addAll(1, 2));
        }
        Edge.raises("10 addAll: with 60 and a walk of it", Edge::full, STATE, x -> x.addAll(0, 1));
        Edge.raises("10 addAll: with 60 and a walk of the other one", Edge::full, STATE, x -> x.addAll(1, 0));
        Edge.endsOnlyTheWalk("10 addAll: none to 60", () -> Edge.two(60, 0), 60, x -> x.addAll(1, 2));
        Edge.endsOnlyTheWalk("10 addAll: none to none", () -> Edge.two(0, 0), 0, x -> x.addAll(1, 2));
    }

    private static void addList() {
        Edge.bounds("11 addList: bag", 0, 3, BOUNDS, (x, bag) -> x.addList(bag));
        for (int many : new int[] {0, 1, 59, 60}) {
            Edge.endsOnlyTheWalk("11 addList: 0 without others, " + many, () -> Edge.listed(many, 0), 0, x -> x.addList(1));
        }
        for (int[] told : new int[][] {{0, 1}, {0, 20}, {59, 1}, {40, 20}, {41, 19}}) {
            Leastbag x = Edge.lets("11 addList: 1, " + told[1] + " to " + told[0], () -> Edge.listed(told[0], told[1]), 1,
                    y -> y.addList(1));
            Check.due("11 addList: all are in", x.size(1), told[0] + told[1]);
            Check.due("11 addList: they stay there, too", x.house(1) + x.list(0), told[1] + "0f");
            Check.due("11 addList: the order stays", x.orderOf(1), 2);
        }
        for (int[] told : new int[][] {{60, 1}, {41, 20}, {42, 19}, {60, 20}}) {
            Edge.raises("11 addList: would be more than 60, " + told[1] + " to " + told[0],
                    () -> Edge.listed(told[0], told[1]), STATE, x -> x.addList(1));
        }
        Leastbag x = Edge.lets("11 addList: 1 also if it has those that are like them", Edge::some, 1, y -> y.addList(1));
        Check.due("11 addList: also two that are like each other", x.sorted(1), "2f 7f 30e 30e 40c 40c");
        x.unlay();
        Check.due("11 addList: it does not go with the list", x.size(1), 6);
    }

    // ---- out

    private static void poll() {
        Edge.bounds("12 poll: bag", 0, 3, BOUNDS, (x, bag) -> x.poll(bag));
        Edge.endsOnlyTheWalk("12 poll: \"-\" if there is none", () -> Edge.one(0), "-", x -> x.poll(1));
        Edge.asks("12 poll: \"-\" if there is none, of another one", Edge::none, "-", x -> x.poll(3));
        leastGoes("12 poll", Leastbag::poll);
    }

    private static void take() {
        Edge.bounds("13 take: bag", 0, 3, BOUNDS, (x, bag) -> x.take(bag));
        Edge.refuses("13 take: \"!\" if there is none", () -> Edge.one(0), "!", true, x -> x.take(1));
        Edge.refuses("13 take: \"!\" if there is none, of another one", () -> Edge.one(9), "!", false, x -> x.take(0));
        leastGoes("13 take", Leastbag::take);
    }

    private interface Taking {
        String of(Leastbag x, int bag);
    }

    private static void leastGoes(String name, Taking taking) {
        Leastbag one = Edge.lets(name + ": the last one", () -> Edge.one(1), "4a", x -> taking.of(x, 1));
        Check.due(name + ": none is left", one.size(1) + one.peek(1) + one.orderOf(1), "0-2");
        Leastbag two = Edge.lets(name + ": one of two like each other", () -> alike(2), "5a", x -> taking.of(x, 1));
        Check.due(name + ": the other one is left", two.sorted(1), "5a");
        Leastbag all = Edge.lets(name + ": one of 60", Edge::full, "97e", x -> taking.of(x, 1));
        Check.due(name + ": 59 are left", all.size(1), 59);
        Check.due(name + ": the others stay", all.house(0), 239);
    }

    /** Bag 1 has so many that are like each other. */
    private static Leastbag alike(int many) {
        Leastbag x = new Leastbag();
        for (int k = 0; k < many; k++) {
            x.add(1, 5, 0);
        }
        return x;
    }

    private static void remove() {
        Edge.bounds("14 remove: bag", 0, 3, BOUNDS, (x, bag) -> x.remove(bag, 0, 0));
        Edge.bounds("14 remove: weight", 0, 99, ARGUMENT, (x, weight) -> x.remove(1, weight, 0));
        Edge.bounds("14 remove: letter", 0, 5, ARGUMENT, (x, letter) -> x.remove(1, 0, letter));
        Edge.endsOnlyTheWalk("14 remove: of none", () -> Edge.one(0), false, x -> x.remove(1, 0, 0));
        Edge.endsOnlyTheWalk("14 remove: one with a weight less", Edge::some, false, x -> x.remove(1, 39, 2));
        Edge.endsOnlyTheWalk("14 remove: one with a weight more", Edge::some, false, x -> x.remove(1, 41, 2));
        Edge.endsOnlyTheWalk("14 remove: one with a letter less", Edge::some, false, x -> x.remove(1, 40, 1));
        Edge.endsOnlyTheWalk("14 remove: one with a letter more", Edge::some, false, x -> x.remove(1, 40, 3));
        Edge.asks("14 remove: one that another bag has", Edge::some, false, x -> x.remove(0, 40, 2));
        Leastbag x = Edge.lets("14 remove: one of two like each other", Edge::some, true, y -> y.remove(1, 40, 2));
        Check.due("14 remove: the other one is left", x.sorted(1), "7f 40c");
        Check.due("14 remove: the last one", x.remove(1, 40, 2), true);
        Check.due("14 remove: none like that is left", x.remove(1, 40, 2), false);
        Check.due("14 remove: the only one", x.remove(1, 7, 5), true);
        Check.due("14 remove: none is left", x.size(1) + x.sorted(1), "0");
        for (int order = 0; order < 4; order++) {
            Leastbag y = Edge.full();
            String[] row = y.sorted(order).split(" ");
            for (int place : new int[] {0, 30, 59}) {
                String text = row[place];
                int weight = Integer.parseInt(text.substring(0, text.length() - 1));
                int letter = text.charAt(text.length() - 1) - 'a';
                int many = y.count(order, weight, letter);
                Check.due("14 remove: the thing at " + place + " by order " + order, y.remove(order, weight, letter), true);
                Check.due("14 remove: one of these is gone", y.count(order, weight, letter), many - 1);
            }
            Check.due("14 remove: three of 60 are gone", y.size(order), 57);
        }
    }

    private static void sweep() {
        Edge.bounds("15 sweep: bag", 0, 3, BOUNDS, (x, bag) -> x.sweep(bag, 0));
        Edge.bounds("15 sweep: kind", 0, 9, ARGUMENT, (x, kind) -> x.sweep(1, kind));
        for (int kind = 0; kind < 10; kind++) {
            int none = kind;
            Edge.endsOnlyTheWalk("15 sweep: 0 of none, kind " + kind, () -> Edge.one(0), 0, x -> x.sweep(1, none));
            Leastbag x = Edge.full();
            int many = x.total(1, kind, false);
            Check.due("15 sweep: how many of 60 were, kind " + kind, x.sweep(1, kind), many);
            Check.due("15 sweep: none of them is left", x.total(1, kind, false), 0);
            Check.due("15 sweep: the others stay", x.size(1) + " " + x.house(0), (60 - many) + " " + (240 - many));
            Check.due("15 sweep: the order stays", x.orderOf(1), 1);
        }
        Edge.endsOnlyTheWalk("15 sweep: 0 if there is none of the kind", Edge::some, 0, x -> x.sweep(1, 0));
        Leastbag x = Edge.lets("15 sweep: all that are like each other", () -> alike(60), 60, y -> y.sweep(1, 0));
        Check.due("15 sweep: none is left", x.size(1), 0);
    }

    private static void clear() {
        Edge.bounds("16 clear: bag", 0, 3, BOUNDS, (x, bag) -> x.clear(bag));
        Edge.endsOnlyTheWalk("16 clear: none", () -> Edge.one(0), 0, x -> x.clear(1));
        for (int many : new int[] {1, 59, 60}) {
            Leastbag x = Edge.lets("16 clear: how many there were", () -> Edge.two(many, 5), many, y -> y.clear(1));
            Check.due("16 clear: none is left", x.size(1) + x.peek(1) + x.sorted(1), "0-");
            Check.due("16 clear: the order stays", x.orderOf(1), 2);
            Check.due("16 clear: another one stays", x.size(2), 5);
            Check.due("16 clear: again", x.clear(1), 0);
        }
    }

    private static void pollAll() {
        Edge.bounds("17 pollAll: bag", 0, 3, BOUNDS, (x, bag) -> x.pollAll(bag));
        Edge.endsOnlyTheWalk("17 pollAll: none", () -> Edge.one(0), "", x -> x.pollAll(1));
        for (int many : new int[] {1, 2, 60}) {
            String row = Edge.one(many).sorted(1);
            Leastbag x = Edge.lets("17 pollAll: the row of " + many, () -> Edge.two(many, 5), row, y -> y.pollAll(1));
            Check.due("17 pollAll: none is left", x.size(1) + x.peek(1), "0-");
            Check.due("17 pollAll: the order stays", x.orderOf(1), 2);
            Check.due("17 pollAll: another one stays", x.size(2), 5);
        }
    }

    private static void pour() {
        Edge.bounds("18 pour: bag", 0, 3, BOUNDS, (x, bag) -> x.pour(bag, 1));
        Edge.bounds("18 pour: other", 0, 3, BOUNDS, (x, other) -> x.pour(1, other));
        Edge.bounds("18 pour: both the same", 0, 3, BOUNDS, (x, bag) -> x.pour(bag, bag));
        for (int many : new int[] {0, 1, 30, 31, 60}) {
            Edge.refuses("18 pour: -9 if both are the same, " + many, () -> Edge.one(many), -9, true, x -> x.pour(1, 1));
        }
        Edge.refuses("18 pour: -9 if both are the same, another one", Edge::some, -9, false, x -> x.pour(3, 3));
        for (int[] told : new int[][] {{30, 30}, {0, 60}, {60, 0}, {1, 59}, {59, 1}, {1, 0}, {0, 0}}) {
            Leastbag x = Edge.lets("18 pour: " + told[0] + " to " + told[1], () -> Edge.two(told[0], told[1]),
                    told[0] + told[1], y -> y.pour(1, 2));
            Check.due("18 pour: all are taken out", x.size(1) + x.peek(1), "0-");
            Check.due("18 pour: the orders stay", x.orderOf(1) * 10 + x.orderOf(2), 23);
            int weights = Edge.two(told[0], told[1]).total(1, 9, true) + Edge.two(told[0], told[1]).total(2, 9, true);
            Check.due("18 pour: each is put in", x.total(2, 9, true), weights);
            Check.due("18 pour: the other one has them", x.size(2), told[0] + told[1]);
        }
        for (int[] told : new int[][] {{30, 31}, {31, 30}, {60, 1}, {1, 60}, {60, 60}}) {
            Edge.raises("18 pour: would have more than 60, " + told[0] + " to " + told[1],
                    () -> Edge.two(told[0], told[1]), STATE, x -> x.pour(1, 2));
        }
        Edge.raises("18 pour: with 60 and a walk of it", Edge::full, STATE, x -> x.pour(0, 1));
        Edge.raises("18 pour: with 60 and a walk of the other one", Edge::full, STATE, x -> x.pour(1, 0));
        Edge.endsOnlyTheWalk("18 pour: none to 60", () -> Edge.two(0, 60), 60, x -> x.pour(1, 2));
        Edge.endsOnlyTheWalk("18 pour: none to none", () -> Edge.two(0, 0), 0, x -> x.pour(1, 2));
    }

    private static void untimely() {
        Edge.bounds("19 untimely: bag", 0, 3, BOUNDS, (x, bag) -> x.untimely(bag));
        Edge.refuses("19 untimely", Edge::some, -9, true, x -> x.untimely(1));
        Edge.refuses("19 untimely: of another one", Edge::some, -9, false, x -> x.untimely(3));
        Edge.refuses("19 untimely: of none", Edge::none, -9, false, x -> x.untimely(0));
        Edge.refuses("19 untimely: of 60", Edge::full, -9, true, x -> x.untimely(0));
    }

    // ---- the list, the set

    private static void lay() {
        Edge.bounds("20 lay: weight", 0, 99, ARGUMENT, (x, weight) -> x.lay(weight, 0));
        Edge.bounds("20 lay: letter", 0, 5, ARGUMENT, (x, letter) -> x.lay(0, letter));
        for (int laid : new int[] {0, 1, 18, 19}) {
            Leastbag x = Edge.lets("20 lay: how many lie there then", () -> Edge.listed(3, laid), laid + 1, y -> y.lay(99, 0));
            Check.due("20 lay: behind the others", x.list(laid), "99a");
            Check.due("20 lay: the others stay", x.list(0), laid == 0 ? "99a" : "0f");
        }
        Edge.raises("20 lay: if there are 20", () -> Edge.listed(3, 20), STATE, x -> x.lay(1, 1));
        Edge.raises("20 lay: if there are 20, one that is like one", Edge::full, STATE, x -> x.lay(0, 0));
        Edge.lets("20 lay: 20 of the set do not matter", () -> Edge.joined(20), 1, x -> x.lay(0, 0));
        Leastbag x = Edge.lets("20 lay: one that is like the last one", Edge::some, 4, y -> y.lay(30, 4));
        Check.due("20 lay: both lie there", x.list(2) + x.list(3), "30e30e");
    }

    private static void unlay() {
        Edge.raises("21 unlay: if there is none", Edge::none, STATE, Leastbag::unlay);
        Edge.raises("21 unlay: if there is none, beside 60", () -> Edge.one(60), STATE, Leastbag::unlay);
        for (int laid : new int[] {1, 2, 20}) {
            Leastbag x = Edge.lets("21 unlay: how many are left", () -> Edge.listed(3, laid), laid - 1, Leastbag::unlay);
            Check.due("21 unlay: they are left", x.house(1), laid - 1);
            Check.due("21 unlay: the last one is gone", Check.outcome(() -> x.list(laid - 1)), "throws.IndexOutOfBoundsException");
            if (laid > 1) {
                Check.due("21 unlay: that in front stays", x.list(laid - 2), (laid - 2) * 29 % 100 + "f");
            }
        }
        Leastbag x = Edge.listed(0, 1);
        x.unlay();
        Check.raises("21 unlay: if there is none any more", x, STATE, x::unlay);
        Leastbag full = Edge.full();
        full.unlay();
        Check.due("21 unlay: then one may be laid again", full.lay(0, 0), 20);
    }

    private static void join() {
        Edge.bounds("22 join: weight", 0, 99, ARGUMENT, (x, weight) -> x.join(weight, 0));
        Edge.bounds("22 join: letter", 0, 5, ARGUMENT, (x, letter) -> x.join(0, letter));
        for (int many : new int[] {0, 1, 18, 19}) {
            Leastbag x = Edge.lets("22 join: whether it came", () -> Edge.joined(many), true, y -> y.join(99, 5));
            Check.due("22 join: it is there", x.house(2) + x.set().substring(0, 3), many + 1 + "99f");
        }
        Edge.asks("22 join: none comes if one like it is there", () -> Edge.joined(19), false, x -> x.join(5, 1));
        Edge.asks("22 join: none comes if one like it is the only one", () -> Edge.joined(1), false, x -> x.join(0, 0));
        Edge.lets("22 join: one with another letter", () -> Edge.joined(19), true, x -> x.join(5, 2));
        Edge.lets("22 join: one with another weight", () -> Edge.joined(19), true, x -> x.join(6, 1));
        Edge.raises("22 join: if there are 20", () -> Edge.joined(20), STATE, x -> x.join(99, 5));
        Edge.raises("22 join: if there are 20, also if one like it is there", () -> Edge.joined(20), STATE, x -> x.join(5, 1));
        Edge.raises("22 join: if there are 20, beside a walk", Edge::full, STATE, x -> x.join(99, 5));
        Edge.lets("22 join: 20 of the list do not matter", () -> Edge.listed(3, 20), true, x -> x.join(0, 0));
    }

    private static void leave() {
        Edge.bounds("23 leave: weight", 0, 99, ARGUMENT, (x, weight) -> x.leave(weight, 0));
        Edge.bounds("23 leave: letter", 0, 5, ARGUMENT, (x, letter) -> x.leave(0, letter));
        Edge.asks("23 leave: of none", Edge::none, false, x -> x.leave(0, 0));
        Edge.asks("23 leave: one with another letter", () -> Edge.joined(20), false, x -> x.leave(5, 2));
        Edge.asks("23 leave: one with another weight", () -> Edge.joined(20), false, x -> x.leave(6, 1));
        Edge.asks("23 leave: one that a bag and the list have", Edge::some, false, x -> x.leave(30, 4));
        for (int many : new int[] {1, 2, 20}) {
            Leastbag x = Edge.lets("23 leave: whether it went", () -> Edge.joined(many), true, y -> y.leave(0, 0));
            Check.due("23 leave: it is gone", x.house(2) + " " + x.leave(0, 0), many - 1 + " false");
            Check.due("23 leave: then it may come again", x.join(0, 0), true);
            Check.due("23 leave: all are there again", x.set(), Edge.joined(many).set());
        }
    }

    private static void setOrder() {
        Edge.bounds("24 setOrder: order", 0, 3, ARGUMENT, Leastbag::setOrder);
        Check.due("24 setOrder: 0 at first", Edge.none().setOrder(3), 0);
        for (int many : new int[] {0, 1, 20}) {
            for (int order = 0; order < 4; order++) {
                int next = order;
                Leastbag x = Edge.lets("24 setOrder: that before", () -> Edge.joined(many), 1, y -> y.setOrder(next));
                Check.due("24 setOrder: its things stay", x.house(2), many);
                Check.due("24 setOrder: it has another one then", x.setOrder(1), order);
                Check.due("24 setOrder: and back", x.set(), Edge.joined(many).set());
            }
        }
        Edge.asks("24 setOrder: to the same one", Edge::some, 2, x -> x.setOrder(2));
        Leastbag x = Edge.some();
        x.setOrder(3);
        Check.due("24 setOrder: no bag has another one", "" + x.orderOf(0) + x.orderOf(1) + x.orderOf(2) + x.orderOf(3), "1023");
        x.make(0, 0, 1);
        Check.due("24 setOrder: nor has the set that of a bag", x.setOrder(0), 3);
    }

    // ---- the walk

    private static void walk() {
        Edge.bounds("25 walk: bag", 0, 3, BOUNDS, (x, bag) -> x.walk(bag));
        for (int many : new int[] {0, 1, 59, 60}) {
            Leastbag x = Edge.lets("25 walk: how many it will come over", () -> Edge.two(5, many), many, y -> y.walk(2));
            Check.due("25 walk: it begins", x.house(3) + " " + x.walked(0), "2 0");
            Check.due("25 walk: all will be come over", walkToTheEnd(x), many);
            Check.due("25 walk: the things stay", x.sorted(2), Edge.two(5, many).sorted(2));
        }
        Leastbag x = Edge.some();
        Check.due("25 walk: the same bag anew", x.walk(1), 3);
        Check.due("25 walk: from the beginning", x.walked(0) + " " + x.walked(1) + " " + x.isMore(), "0 -1 true");
        walkToTheEnd(x);
        Check.due("25 walk: nothing of the walk before is summed up", x.walked(1), 87);
    }

    /** How many steps are let. */
    private static int walkToTheEnd(Leastbag x) {
        int over = 0;
        while (over < 61 && x.isMore()) {
            over++;
            Check.due("26 step: how many it went over then", x.step(), over);
        }
        return over;
    }

    private static void step() {
        Edge.raises("26 step: if there is no walk", Edge::none, STATE, Leastbag::step);
        Edge.raises("26 step: if there is none any more", () -> unwalked(3), STATE, Leastbag::step);
        Edge.refuses("26 step: -9 if none is left, of none", () -> Edge.one(0), -9, false, Leastbag::step);
        for (int many : new int[] {1, 2, 60}) {
            Edge.lets("26 step: the last one of " + many, () -> walkedOver(many, many - 1), many, Leastbag::step);
            Edge.refuses("26 step: -9 if none is left of " + many, () -> walkedOver(many, many), -9, false, Leastbag::step);
        }
        Leastbag x = Edge.lets("26 step: the first one of 60", () -> walkedOver(60, 0), 1, Leastbag::step);
        Check.due("26 step: one more", x.step(), 2);
        Leastbag end = walkedOver(2, 2);
        Check.due("26 step: -9 again and again", end.step() + end.step() + end.step(), -27);
        Check.due("26 step: each is counted", end.house(4), 3);
        Check.due("26 step: it went over no more", end.walked(0), 2);
    }

    /** A walk through bag 1 with so many, that went over so many. */
    private static Leastbag walkedOver(int many, int over) {
        Leastbag x = Edge.one(many);
        x.walk(1);
        for (int k = 0; k < over; k++) {
            x.step();
        }
        return x;
    }

    /** A walk through bag 1 with so many is ended by a call that changes nothing else. */
    private static Leastbag unwalked(int many) {
        Leastbag x = Edge.one(many);
        x.fill(1, 0, 0, 0);
        return x;
    }

    private static void isMore() {
        Edge.asks("27 isMore: without a walk", Edge::none, false, Leastbag::isMore);
        Edge.asks("27 isMore: behind a walk's end", () -> unwalked(3), false, Leastbag::isMore);
        Edge.asks("27 isMore: through none", () -> walkedOver(0, 0), false, Leastbag::isMore);
        for (int many : new int[] {1, 2, 60}) {
            Edge.asks("27 isMore: ahead of all", () -> walkedOver(many, 0), true, Leastbag::isMore);
            Edge.asks("27 isMore: ahead of the last one", () -> walkedOver(many, many - 1), true, Leastbag::isMore);
            Edge.asks("27 isMore: behind the last one", () -> walkedOver(many, many), false, Leastbag::isMore);
            Edge.asks("27 isMore: behind the last one, refused", () -> walkedOver(many, many + 1), false, Leastbag::isMore);
        }
    }

    private static void walked() {
        Edge.bounds("28 walked: what", 0, 1, ARGUMENT, Leastbag::walked);
        for (int what : new int[] {0, 1}) {
            Edge.raises("28 walked: if there is no walk", Edge::none, STATE, x -> x.walked(what));
            Edge.raises("28 walked: if there is none any more", () -> unwalked(3), STATE, x -> x.walked(what));
        }
        for (int many : new int[] {1, 2, 60}) {
            int weights = Edge.one(many).total(1, 9, true);
            for (int over : new int[] {0, many - 1, many, many + 1}) {
                int gone = Math.min(over, many);
                String name = over + " of " + many;
                Edge.asks("28 walked: how many, " + name, () -> walkedOver(many, over), gone, x -> x.walked(0));
                Edge.asks("28 walked: the sum, if these are all, otherwise none, " + name, () -> walkedOver(many, over),
                        gone == many ? weights : -1, x -> x.walked(1));
            }
        }
        Edge.asks("28 walked: how many of none", () -> walkedOver(0, 0), 0, x -> x.walked(0));
        Edge.asks("28 walked: the sum of none, which are all", () -> walkedOver(0, 0), 0, x -> x.walked(1));
        Edge.asks("28 walked: the sum of 60 of the weight 99", BoundaryTest::heaviest, 5940, x -> x.walked(1));
        Edge.asks("28 walked: the sum of one of the weight 0", BoundaryTest::lightest, 0, x -> x.walked(1));
    }

    private static Leastbag heaviest() {
        Leastbag x = new Leastbag();
        x.fill(1, 30, 99, 0);
        x.fill(1, 30, 99, 0);
        x.walk(1);
        walkToTheEnd(x);
        return x;
    }

    private static Leastbag lightest() {
        Leastbag x = new Leastbag();
        x.add(0, 0, 0);
        x.walk(0);
        x.step();
        return x;
    }

    // ---- asked

    private static void peek() {
        Edge.bounds("29 peek: bag", 0, 3, BOUNDS, (x, bag) -> x.peek(bag));
        Edge.asks("29 peek: \"-\" if there is none", Edge::none, "-", x -> x.peek(0));
        Edge.asks("29 peek: \"-\" if there is none, with a walk of it", () -> Edge.one(0), "-", x -> x.peek(1));
        Edge.asks("29 peek: of one", () -> Edge.one(1), "4a", x -> x.peek(1));
        Edge.asks("29 peek: of 60", Edge::full, "97e", x -> x.peek(1));
        Edge.asks("29 peek: of two like each other", () -> alike(2), "5a", x -> x.peek(1));
    }

    private static void element() {
        Edge.bounds("30 element: bag", 0, 3, BOUNDS, (x, bag) -> x.element(bag));
        Edge.refuses("30 element: \"!\" if there is none", Edge::none, "!", false, x -> x.element(0));
        Edge.refuses("30 element: \"!\" if there is none, with a walk of it", () -> Edge.one(0), "!", false, x -> x.element(1));
        Edge.asks("30 element: of one", () -> Edge.one(1), "4a", x -> x.element(1));
        Edge.asks("30 element: of 60", Edge::full, "97e", x -> x.element(1));
    }

    private static void contains() {
        Edge.bounds("31 contains: bag", 0, 3, BOUNDS, (x, bag) -> x.contains(bag, 0, 0));
        Edge.bounds("31 contains: weight", 0, 99, ARGUMENT, (x, weight) -> x.contains(1, weight, 0));
        Edge.bounds("31 contains: letter", 0, 5, ARGUMENT, (x, letter) -> x.contains(1, 0, letter));
        Edge.asks("31 contains: of none", Edge::none, false, x -> x.contains(0, 0, 0));
        Edge.asks("31 contains: one of two", Edge::some, true, x -> x.contains(1, 40, 2));
        Edge.asks("31 contains: the least one", Edge::some, true, x -> x.contains(1, 7, 5));
        Edge.asks("31 contains: one with a weight less", Edge::some, false, x -> x.contains(1, 39, 2));
        Edge.asks("31 contains: one with a weight more", Edge::some, false, x -> x.contains(1, 41, 2));
        Edge.asks("31 contains: one with a letter less", Edge::some, false, x -> x.contains(1, 40, 1));
        Edge.asks("31 contains: one with a letter more", Edge::some, false, x -> x.contains(1, 40, 3));
        Edge.asks("31 contains: one that another bag has", Edge::some, false, x -> x.contains(0, 40, 2));
        for (int[] thing : new int[][] {{0, 0}, {99, 5}}) {
            Leastbag x = new Leastbag();
            x.add(3, thing[0], thing[1]);
            Check.due("31 contains: one at the edge", x.contains(3, thing[0], thing[1]), true);
            Check.due("32 count: one at the edge", x.count(3, thing[0], thing[1]), 1);
            Check.due("14 remove: one at the edge", x.remove(3, thing[0], thing[1]), true);
            Check.due("31 contains: none at the edge", x.contains(3, thing[0], thing[1]), false);
        }
    }

    private static void count() {
        Edge.bounds("32 count: bag", 0, 3, BOUNDS, (x, bag) -> x.count(bag, 0, 0));
        Edge.bounds("32 count: weight", 0, 99, ARGUMENT, (x, weight) -> x.count(1, weight, 0));
        Edge.bounds("32 count: letter", 0, 5, ARGUMENT, (x, letter) -> x.count(1, 0, letter));
        Edge.asks("32 count: of none", Edge::none, 0, x -> x.count(0, 0, 0));
        Edge.asks("32 count: one", Edge::some, 1, x -> x.count(1, 7, 5));
        Edge.asks("32 count: two", Edge::some, 2, x -> x.count(1, 40, 2));
        Edge.asks("32 count: one with another letter", Edge::some, 0, x -> x.count(1, 40, 3));
        Edge.asks("32 count: one with another weight", Edge::some, 0, x -> x.count(1, 41, 2));
        Edge.asks("32 count: 60", () -> alike(60), 60, x -> x.count(1, 5, 0));
        Edge.asks("32 count: none beside 60", () -> alike(60), 0, x -> x.count(1, 5, 1));
    }

    private static void total() {
        Edge.bounds("33 total: bag", 0, 3, BOUNDS, (x, bag) -> x.total(bag, 0, false));
        Edge.bounds("33 total: kind, how many", 0, 9, ARGUMENT, (x, kind) -> x.total(1, kind, false));
        Edge.bounds("33 total: kind, the sum", 0, 9, ARGUMENT, (x, kind) -> x.total(1, kind, true));
        for (int kind = 0; kind < 10; kind++) {
            int told = kind;
            Edge.asks("33 total: how many of none", Edge::none, 0, x -> x.total(2, told, false));
            Edge.asks("33 total: the sum of none", Edge::none, 0, x -> x.total(2, told, true));
        }
        Edge.asks("33 total: how many of 60", BoundaryTest::heaviest, 60, x -> x.total(1, 9, false));
        Edge.asks("33 total: the sum of 60 of the weight 99", BoundaryTest::heaviest, 5940, x -> x.total(1, 9, true));
        Edge.asks("33 total: how many of the weight 0", BoundaryTest::lightest, 1, x -> x.total(0, 6, false));
        Edge.asks("33 total: the sum of one of the weight 0", BoundaryTest::lightest, 0, x -> x.total(0, 6, true));
    }

    private static void size() {
        Edge.bounds("34 size: bag", 0, 3, BOUNDS, (x, bag) -> x.size(bag));
        for (int many : new int[] {0, 1, 59, 60}) {
            Edge.asks("34 size: of " + many, () -> Edge.one(many), many, x -> x.size(1));
        }
    }

    private static void isEmpty() {
        Edge.bounds("35 isEmpty: bag", 0, 3, BOUNDS, (x, bag) -> x.isEmpty(bag));
        for (int many : new int[] {0, 1, 60}) {
            Edge.asks("35 isEmpty: of " + many, () -> Edge.one(many), many == 0, x -> x.isEmpty(1));
        }
        Leastbag x = Edge.one(1);
        x.poll(1);
        Check.due("35 isEmpty: behind the last one", x.isEmpty(1), true);
    }

    private static void orderOf() {
        Edge.bounds("36 orderOf: bag", 0, 3, BOUNDS, (x, bag) -> x.orderOf(bag));
        for (int bag = 0; bag < 4; bag++) {
            int asked = bag;
            Edge.asks("36 orderOf: 0 at first", Edge::none, 0, x -> x.orderOf(asked));
            Edge.asks("36 orderOf: each has its own", Edge::full, asked, x -> x.orderOf(asked));
        }
    }

    private static void ahead() {
        Edge.bounds("37 ahead: bag", 0, 3, BOUNDS, (x, bag) -> x.ahead(bag, 0, 0, 1, 1));
        Edge.outside("37 ahead: bag, with wrong things", 0, 3, BOUNDS, (x, bag) -> x.ahead(bag, 100, 6, -1, -1));
        Edge.bounds("37 ahead: weight", 0, 99, ARGUMENT, (x, weight) -> x.ahead(1, weight, 0, 0, 0));
        Edge.bounds("37 ahead: letter", 0, 5, ARGUMENT, (x, letter) -> x.ahead(1, 0, letter, 0, 0));
        Edge.bounds("37 ahead: otherWeight", 0, 99, ARGUMENT, (x, weight) -> x.ahead(1, 0, 0, weight, 0));
        Edge.bounds("37 ahead: otherLetter", 0, 5, ARGUMENT, (x, letter) -> x.ahead(1, 0, 0, 0, letter));
        Edge.bounds("37 ahead: both weights", 0, 99, ARGUMENT, (x, weight) -> x.ahead(1, weight, 0, weight, 0));
        Edge.bounds("37 ahead: both letters", 0, 5, ARGUMENT, (x, letter) -> x.ahead(1, 0, letter, 0, letter));
        for (int bag = 0; bag < 4; bag++) {
            int asked = bag;
            Edge.asks("37 ahead: 0 if they are like each other, 0a", Edge::full, 0, x -> x.ahead(asked, 0, 0, 0, 0));
            Edge.asks("37 ahead: 0 if they are like each other, 99f", Edge::full, 0, x -> x.ahead(asked, 99, 5, 99, 5));
            Edge.asks("37 ahead: -1 or 1 if they are not", Edge::full, asked == 1 ? 1 : -1, x -> x.ahead(asked, 5, 1, 5, 2));
            Edge.asks("37 ahead: turned", Edge::full, asked == 1 ? -1 : 1, x -> x.ahead(asked, 5, 2, 5, 1));
        }
    }

    private static void sorted() {
        Edge.bounds("38 sorted: bag", 0, 3, BOUNDS, (x, bag) -> x.sorted(bag));
        Edge.asks("38 sorted: \"\" without any", Edge::none, "", x -> x.sorted(3));
        Edge.asks("38 sorted: \"\" without any, with a walk of it", () -> Edge.one(0), "", x -> x.sorted(1));
        Edge.asks("38 sorted: of one", () -> Edge.one(1), "4a", x -> x.sorted(1));
        Edge.asks("38 sorted: of two like each other", () -> alike(2), "5a 5a", x -> x.sorted(1));
        Edge.asks("38 sorted: of 60 like each other", () -> alike(60), "5a " + "5a ".repeat(58) + "5a", x -> x.sorted(1));
    }

    private static void nth() {
        Edge.bounds("39 nth: bag", 0, 3, BOUNDS, (x, bag) -> x.nth(bag, 0));
        Edge.outside("39 nth: bag, with no such place", 0, 3, BOUNDS, (x, bag) -> x.nth(bag, 60));
        for (int many : new int[] {0, 1, 3, 59, 60}) {
            for (int k : new int[] {-1, many, many + 1, Integer.MIN_VALUE, Integer.MAX_VALUE}) {
                Edge.raises("39 nth: no such place " + k + " of " + many, () -> Edge.one(many), BOUNDS, x -> x.nth(1, k));
            }
        }
        Edge.raises("39 nth: a place that another one has", () -> Edge.two(3, 60), BOUNDS, x -> x.nth(1, 3));
        Edge.raises("39 nth: place 60 of 60", Edge::full, BOUNDS, x -> x.nth(3, 60));
        for (int many : new int[] {1, 3, 60}) {
            String[] row = Edge.one(many).sorted(1).split(" ");
            for (int k : new int[] {0, many / 2, many - 1}) {
                Edge.asks("39 nth: place " + k + " of " + many, () -> Edge.one(many), row[k], x -> x.nth(1, k));
            }
        }
    }

    private static void areAlike() {
        Edge.bounds("40 areAlike: bag", 0, 3, BOUNDS, (x, bag) -> x.areAlike(bag, 1));
        Edge.bounds("40 areAlike: other", 0, 3, BOUNDS, (x, other) -> x.areAlike(1, other));
        Edge.bounds("40 areAlike: both the same", 0, 3, BOUNDS, (x, bag) -> x.areAlike(bag, bag));
        Edge.asks("40 areAlike: none and none", Edge::none, true, x -> x.areAlike(0, 3));
        Edge.asks("40 areAlike: none and none by another order", () -> Edge.two(0, 0), true, x -> x.areAlike(1, 2));
        Edge.asks("40 areAlike: one and none", () -> Edge.one(1), false, x -> x.areAlike(1, 0));
        Edge.asks("40 areAlike: none and one", () -> Edge.one(1), false, x -> x.areAlike(0, 1));
        Edge.asks("40 areAlike: the same", Edge::some, true, x -> x.areAlike(1, 1));
        Edge.asks("40 areAlike: the same of 60", Edge::full, true, x -> x.areAlike(3, 3));
        alikeBut("whatever the orders are", true, x -> x.size(2));
        alikeBut("one more in the one", false, x -> x.remove(2, 40, 2));
        alikeBut("one more in the other one", false, x -> x.add(2, 40, 2));
        alikeBut("as many, one with another letter", false, x -> x.remove(2, 7, 5) && x.add(2, 7, 4) > 0);
        alikeBut("as many, one with another weight", false, x -> x.remove(2, 7, 5) && x.add(2, 8, 5) > 0);
        alikeBut("as many of all, but not of each", false, x -> x.remove(2, 40, 2) && x.add(2, 7, 5) > 0);
        alikeBut("as many of all, but not of each, the other way", false, x -> x.remove(2, 7, 5) && x.add(2, 40, 2) > 0);
    }

    /** Bags 1 and 2 have the same by other orders; then there is a change; each is asked against the other one. */
    private static void alikeBut(String what, boolean due, Edge.Call change) {
        for (int order = 0; order < 4; order++) {
            Leastbag x = Edge.some();
            x.make(2, order, 60);
            x.addAll(2, 1);
            change.of(x);
            Check.due("40 areAlike: " + what, x.areAlike(1, 2), due);
            Check.due("40 areAlike: turned, " + what, x.areAlike(2, 1), due);
        }
    }

    private static void beyond() {
        Edge.bounds("41 beyond: bag", 0, 3, BOUNDS, (x, bag) -> x.beyond(bag));
        for (int many : new int[] {0, 1, 59, 60}) {
            Edge.asks("41 beyond: of " + many, () -> Edge.two(2, many), many, x -> x.beyond(2));
            Edge.asks("41 beyond: of " + many + ", with a walk of it", () -> Edge.one(many), many, x -> x.beyond(1));
        }
    }

    private static void list() {
        for (int laid : new int[] {0, 1, 3, 19, 20}) {
            for (int k : new int[] {-1, laid, laid + 1, Integer.MIN_VALUE, Integer.MAX_VALUE}) {
                Edge.raises("42 list: no such place " + k + " of " + laid, () -> Edge.listed(3, laid), BOUNDS, x -> x.list(k));
            }
        }
        for (int laid : new int[] {1, 3, 19, 20}) {
            for (int k : new int[] {0, laid / 2, laid - 1}) {
                Edge.asks("42 list: place " + k + " of " + laid, () -> Edge.listed(3, laid), k * 29 % 100 + "f", x -> x.list(k));
            }
        }
        Leastbag x = Edge.some();
        x.unlay();
        Check.raises("42 list: the place of one that went", x, BOUNDS, () -> x.list(2));
    }

    private static void set() {
        Edge.asks("43 set: \"\" without any", Edge::none, "", Leastbag::set);
        Edge.asks("43 set: \"\" without any, by another order", () -> Edge.joined(0), "", Leastbag::set);
        Edge.asks("43 set: of one", () -> Edge.joined(1), "0a", Leastbag::set);
        Edge.asks("43 set: of two", () -> Edge.joined(2), "5b 0a", Leastbag::set);
        Edge.asks("43 set: of 20", () -> Edge.joined(20), "95b 90a 85f 80e 75d 70c 65b 60a 55f 50e 45d 40c 35b 30a"
                + " 25f 20e 15d 10c 5b 0a", Leastbag::set);
        Leastbag x = Edge.joined(1);
        x.leave(0, 0);
        Check.due("43 set: \"\" if the last one went", x.set(), "");
    }

    // ---- all

    private static void house() {
        Edge.bounds("44 house: what", 0, 5, ARGUMENT, Leastbag::house);
        int[][] due = {{0, 0, 0, -1, 0, 0}, {14, 3, 2, 1, 1, 2}, {240, 20, 20, 0, 0, 1}};
        for (int state = 0; state < Edge.STATES.length; state++) {
            for (int what = 0; what < 6; what++) {
                int asked = what;
                Edge.asks("44 house: " + what, Edge.STATES[state], due[state][what], x -> x.house(asked));
            }
        }
        for (int bag = 0; bag < 4; bag++) {
            Leastbag x = new Leastbag();
            x.walk(bag);
            Check.due("44 house: the bag of the walk, also without things", x.house(3), bag);
            x.clear(bag);
            Check.due("44 house: NONE without one", x.house(3), -1);
            x.add(bag, 1, 1);
            Check.due("44 house: things in all bags, one in " + bag, x.house(0), 1);
        }
        Leastbag x = Edge.two(0, 2);
        x.poll(1);
        x.peek(1);
        x.beyond(1);
        x.beyond(2);
        x.walk(1);
        x.walked(1);
        Check.due("44 house: what beyond() is refused is not counted, nor is \"-\" or NONE", x.house(4), 0);
        Leastbag often = new Leastbag();
        for (int k = 1; k <= 255; k++) {
            Check.due("44 house: -9 once more", often.untimely(0), -9);
            Check.due("44 house: how often ever", often.house(4), k);
        }
    }

    private static void knock() {
        Leastbag x = Edge.none();
        for (int k = 1; k <= 511; k++) {
            Check.due("45 knock: how often ever, with this", x.knock(), k);
        }
        Check.due("45 knock: the 512th call", x.house(5), 511);
        Leastbag y = Edge.some();
        Look before = Look.at(y);
        Check.due("45 knock", y.knock(), 3);
        Check.due("45 knock: house tells it", y.house(5), 3);
        Check.due("45 knock: nothing else is changed",
                Look.at(y), new Look(before.things().replace("knocks 2", "knocks 3"), before.walk(), before.refusals()));
    }

    private static void isSound() {
        for (Edge.State state : Edge.STATES) {
            Edge.asks("46 isSound", state, true, Leastbag::isSound);
        }
        for (int many : new int[] {0, 1, 2, 60}) {
            Edge.asks("46 isSound: of " + many, () -> Edge.one(many), true, Leastbag::isSound);
            Edge.asks("46 isSound: of " + many + " like each other", () -> alike(many), true, Leastbag::isSound);
            Edge.asks("46 isSound: of bags like each other", () -> {
                Leastbag x = Edge.one(many);
                x.makeLike(0, 1);
                x.makeLike(3, 0);
                return x;
            }, true, Leastbag::isSound);
        }
    }

    private static void digest() {
        for (Edge.State state : Edge.STATES) {
            Edge.asks("47 digest: nothing is changed", state, Edge.digestByOtherCalls(state.made()), Leastbag::digest);
        }
        for (int many : new int[] {0, 1, 60}) {
            for (int left : new int[] {0, 1, many}) {
                Edge.asks("47 digest: of " + many + " with a walk", () -> walkedOver(many, many - left),
                        Edge.digestByOtherCalls(walkedOver(many, many - left)), Leastbag::digest);
            }
            Edge.asks("47 digest: of " + many + " without a walk", () -> unwalked(many), Edge.digestByOtherCalls(unwalked(many)),
                    Leastbag::digest);
        }
        for (int laid : new int[] {0, 1, 20}) {
            Edge.asks("47 digest: the list of " + laid, () -> Edge.listed(1, laid),
                    Edge.digestByOtherCalls(Edge.listed(1, laid)), Leastbag::digest);
            Edge.asks("47 digest: the set of " + laid, () -> Edge.joined(laid),
                    Edge.digestByOtherCalls(Edge.joined(laid)), Leastbag::digest);
        }
    }
}
