import java.util.ArrayList;
import java.util.Collections;
import java.util.Comparator;
import java.util.HashMap;
import java.util.Iterator;
import java.util.List;
import java.util.Map;
import java.util.NoSuchElementException;
import java.util.PriorityQueue;
import java.util.TreeSet;

/**
 * The document once more, written with the Java library and nothing of Leastbag: bags are
 * PriorityQueues, the walk is an iterator of one, and what is refused is what these refuse.
 */
public final class Model {
    record Thing(int weight, int letter) {
        @Override
        public String toString() {
            return weight + "" + "abcdef".charAt(letter);
        }
    }

    private static final Comparator<Thing> NATURAL = Comparator.comparingInt(Thing::weight).thenComparingInt(Thing::letter);
    private static final List<Comparator<Thing>> ORDERS = List.of(
            NATURAL,
            NATURAL.reversed(),
            Comparator.comparingInt(Thing::letter).thenComparingInt(Thing::weight),
            Comparator.comparingInt((Thing t) -> t.weight() % 10)
                    .thenComparing(Comparator.comparingInt(Thing::weight).reversed())
                    .thenComparingInt(Thing::letter));

    private final List<PriorityQueue<Thing>> bags = new ArrayList<>();
    private final List<Thing> list = new ArrayList<>();
    private TreeSet<Thing> set = new TreeSet<>(ORDERS.get(0));
    private int walkBag = -1;
    private Iterator<Thing> walk = null;
    private int over = 0;
    private int weights = 0;
    private int refusals = 0;
    private int knocks = 0;

    public Model() {
        for (int bag = 0; bag < 4; bag++) {
            bags.add(new PriorityQueue<>(ORDERS.get(0)));
        }
    }

    public int make(int bag, int order, int room) {
        bagIs(bag);
        allowed(0 <= order && order <= 3 && 0 <= room && room <= 60);
        named(bag);
        try {
            PriorityQueue<Thing> made = new PriorityQueue<>(room, ORDERS.get(order));
            return bags.set(bag, made).size();
        } catch (IllegalArgumentException e) {
            return refused();
        }
    }

    public int makeLike(int bag, int other) {
        bagIs(bag);
        bagIs(other);
        named(bag);
        named(other);
        bags.set(bag, new PriorityQueue<>(bags.get(other)));
        return bags.get(bag).size();
    }

    public int makeOfList(int bag) {
        bagIs(bag);
        named(bag);
        PriorityQueue<Thing> made = new PriorityQueue<>(ORDERS.get(0));
        made.addAll(list);
        bags.set(bag, made);
        return made.size();
    }

    public int makeOfSet(int bag) {
        bagIs(bag);
        named(bag);
        bags.set(bag, new PriorityQueue<>(set));
        return bags.get(bag).size();
    }

    public int add(int bag, int weight, int letter) {
        bagIs(bag);
        Thing thing = thing(weight, letter);
        room(bags.get(bag).size() < 60);
        named(bag);
        bags.get(bag).add(thing);
        return bags.get(bag).size();
    }

    public int offer(int bag, int weight, int letter) {
        bagIs(bag);
        Thing thing = thing(weight, letter);
        room(bags.get(bag).size() < 60);
        named(bag);
        bags.get(bag).offer(thing);
        return bags.get(bag).size();
    }

    public int fill(int bag, int many, int from, int by) {
        bagIs(bag);
        allowed(0 <= many && many <= 30 && 0 <= from && from <= 99 && 0 <= by && by <= 99);
        room(bags.get(bag).size() + many <= 60);
        named(bag);
        int weight = from;
        for (int k = 0; k < many; k++) {
            bags.get(bag).add(new Thing(weight, k % 6));
            weight = (weight + by) % 100;
        }
        return bags.get(bag).size();
    }

    public int addNothing(int bag, boolean isOffered) {
        bagIs(bag);
        named(bag);
        try {
            if (isOffered) {
                bags.get(bag).offer(null);
            } else {
                bags.get(bag).add(null);
            }
            return 0;
        } catch (NullPointerException e) {
            return refused();
        }
    }

    public int addAll(int bag, int other) {
        bagIs(bag);
        bagIs(other);
        room(bag == other || bags.get(bag).size() + bags.get(other).size() <= 60);
        named(bag);
        named(other);
        try {
            bags.get(bag).addAll(bags.get(other));
            return bags.get(bag).size();
        } catch (IllegalArgumentException e) {
            return refused();
        }
    }

    public int addList(int bag) {
        bagIs(bag);
        room(bags.get(bag).size() + list.size() <= 60);
        named(bag);
        return bags.get(bag).addAll(list) ? 1 : 0;
    }

    public String poll(int bag) {
        bagIs(bag);
        named(bag);
        Thing thing = bags.get(bag).poll();
        return thing == null ? "-" : thing.toString();
    }

    public String take(int bag) {
        bagIs(bag);
        named(bag);
        try {
            return bags.get(bag).remove().toString();
        } catch (NoSuchElementException e) {
            refused();
            return "!";
        }
    }

    public boolean remove(int bag, int weight, int letter) {
        bagIs(bag);
        Thing thing = thing(weight, letter);
        named(bag);
        return bags.get(bag).remove(thing);
    }

    public int sweep(int bag, int kind) {
        bagIs(bag);
        allowed(0 <= kind && kind <= 9);
        named(bag);
        int before = bags.get(bag).size();
        bags.get(bag).removeIf(thing -> isOf(thing, kind));
        return before - bags.get(bag).size();
    }

    public int clear(int bag) {
        bagIs(bag);
        named(bag);
        int before = bags.get(bag).size();
        bags.get(bag).clear();
        return before;
    }

    public String pollAll(int bag) {
        bagIs(bag);
        named(bag);
        List<Thing> row = new ArrayList<>();
        while (!bags.get(bag).isEmpty()) {
            row.add(bags.get(bag).poll());
        }
        return text(row);
    }

    public int pour(int bag, int other) {
        bagIs(bag);
        bagIs(other);
        room(bag == other || bags.get(bag).size() + bags.get(other).size() <= 60);
        named(bag);
        named(other);
        if (bag == other) {
            return refused();
        }
        while (!bags.get(bag).isEmpty()) {
            bags.get(other).add(bags.get(bag).poll());
        }
        return bags.get(other).size();
    }

    public int untimely(int bag) {
        bagIs(bag);
        named(bag);
        try {
            bags.get(bag).iterator().remove();
            return 0;
        } catch (IllegalStateException e) {
            return refused();
        }
    }

    public int lay(int weight, int letter) {
        Thing thing = thing(weight, letter);
        room(list.size() < 20);
        list.add(thing);
        return list.size();
    }

    public int unlay() {
        room(!list.isEmpty());
        list.remove(list.size() - 1);
        return list.size();
    }

    public boolean join(int weight, int letter) {
        Thing thing = thing(weight, letter);
        room(set.size() < 20);
        return set.add(thing);
    }

    public boolean leave(int weight, int letter) {
        return set.remove(thing(weight, letter));
    }

    public int setOrder(int order) {
        allowed(0 <= order && order <= 3);
        TreeSet<Thing> before = set;
        set = new TreeSet<>(ORDERS.get(order));
        set.addAll(before);
        return ORDERS.indexOf(before.comparator());
    }

    public int walk(int bag) {
        bagIs(bag);
        walkBag = bag;
        walk = bags.get(bag).iterator();
        over = 0;
        weights = 0;
        return bags.get(bag).size();
    }

    public int step() {
        room(walkBag != -1);
        try {
            weights += walk.next().weight();
            over++;
            return over;
        } catch (NoSuchElementException e) {
            return refused();
        }
    }

    public boolean isMore() {
        return walkBag != -1 && walk.hasNext();
    }

    public int walked(int what) {
        allowed(what == 0 || what == 1);
        room(walkBag != -1);
        if (what == 0) {
            return over;
        }
        return walk.hasNext() ? -1 : weights;
    }

    public String peek(int bag) {
        bagIs(bag);
        Thing thing = bags.get(bag).peek();
        return thing == null ? "-" : thing.toString();
    }

    public String element(int bag) {
        bagIs(bag);
        try {
            return bags.get(bag).element().toString();
        } catch (NoSuchElementException e) {
            refused();
            return "!";
        }
    }

    public boolean contains(int bag, int weight, int letter) {
        bagIs(bag);
        return bags.get(bag).contains(thing(weight, letter));
    }

    public int count(int bag, int weight, int letter) {
        bagIs(bag);
        return Collections.frequency(bags.get(bag), thing(weight, letter));
    }

    public int total(int bag, int kind, boolean isWeight) {
        bagIs(bag);
        allowed(0 <= kind && kind <= 9);
        int sum = 0;
        for (Thing thing : bags.get(bag)) {
            sum += !isOf(thing, kind) ? 0 : isWeight ? thing.weight() : 1;
        }
        return sum;
    }

    public int size(int bag) {
        bagIs(bag);
        return bags.get(bag).size();
    }

    public boolean isEmpty(int bag) {
        bagIs(bag);
        return bags.get(bag).isEmpty();
    }

    public int orderOf(int bag) {
        bagIs(bag);
        return ORDERS.indexOf(bags.get(bag).comparator());
    }

    public int ahead(int bag, int weight, int letter, int otherWeight, int otherLetter) {
        bagIs(bag);
        Thing one = thing(weight, letter);
        return Integer.signum(ORDERS.get(orderOf(bag)).compare(one, thing(otherWeight, otherLetter)));
    }

    public String sorted(int bag) {
        bagIs(bag);
        return text(row(bag));
    }

    public String nth(int bag, int k) {
        bagIs(bag);
        placeIs(k, bags.get(bag).size());
        return row(bag).get(k).toString();
    }

    public boolean areAlike(int bag, int other) {
        bagIs(bag);
        bagIs(other);
        Map<Thing, Integer> one = new HashMap<>();
        Map<Thing, Integer> another = new HashMap<>();
        bags.get(bag).forEach(thing -> one.merge(thing, 1, Integer::sum));
        bags.get(other).forEach(thing -> another.merge(thing, 1, Integer::sum));
        return one.equals(another);
    }

    public int beyond(int bag) {
        bagIs(bag);
        int come = 0;
        Iterator<Thing> iterator = bags.get(bag).iterator();
        try {
            while (true) {
                iterator.next();
                come++;
            }
        } catch (NoSuchElementException e) {
            return come;
        }
    }

    public String list(int k) {
        placeIs(k, list.size());
        return list.get(k).toString();
    }

    public String set() {
        return text(new ArrayList<>(set));
    }

    public int house(int what) {
        allowed(0 <= what && what <= 5);
        int things = bags.stream().mapToInt(PriorityQueue::size).sum();
        return List.of(things, list.size(), set.size(), walkBag, refusals, knocks).get(what);
    }

    public int knock() {
        return ++knocks;
    }

    /** A PriorityQueue keeps all that isSound() asks for. */
    public boolean isSound() {
        return true;
    }

    public long digest() {
        long d = 7734;
        for (int what = 0; what < 6; what++) {
            d = d * 31 + house(what);
        }
        for (int bag = 0; bag < 4; bag++) {
            d = (d * 31 + size(bag)) * 31 + orderOf(bag);
            d = signs(signs(d, peek(bag)), sorted(bag));
            for (int kind = 0; kind < 10; kind++) {
                d = (d * 31 + total(bag, kind, false)) * 31 + total(bag, kind, true);
            }
        }
        for (Thing thing : list) {
            d = signs(d, thing.toString());
        }
        d = signs(d, set());
        d = d * 31 + (isMore() ? 1 : 0);
        return d * 31 + (isSound() ? 1 : 0);
    }

    private static long signs(long d, String text) {
        for (char sign : text.toCharArray()) {
            d = d * 31 + sign;
        }
        return d;
    }

    private List<Thing> row(int bag) {
        List<Thing> row = new ArrayList<>(bags.get(bag));
        row.sort(bags.get(bag).comparator());
        return row;
    }

    private static String text(List<Thing> row) {
        List<String> texts = new ArrayList<>();
        row.forEach(thing -> texts.add(thing.toString()));
        return String.join(" ", texts);
    }

    private static boolean isOf(Thing thing, int kind) {
        return switch (kind) {
            case 6 -> thing.weight() % 2 == 0;
            case 7 -> thing.weight() % 2 == 1;
            case 8 -> thing.weight() >= 50;
            case 9 -> true;
            default -> thing.letter() == kind;
        };
    }

    private void named(int bag) {
        if (walkBag == bag) {
            walkBag = -1;
            walk = null;
        }
    }

    private int refused() {
        refusals++;
        return -9;
    }

    private static Thing thing(int weight, int letter) {
        allowed(0 <= weight && weight <= 99 && 0 <= letter && letter <= 5);
        return new Thing(weight, letter);
    }

    private static void bagIs(int bag) {
        placeIs(bag, 4);
    }

    private static void placeIs(int place, int bound) {
        if (place < 0 || place >= bound) {
            throw new IndexOutOfBoundsException();
        }
    }

    private static void allowed(boolean is) {
        if (!is) {
            throw new IllegalArgumentException();
        }
    }

    private static void room(boolean is) {
        if (!is) {
            throw new IllegalStateException();
        }
    }
}
