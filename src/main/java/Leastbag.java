/**
 * Bags out of which a least thing comes first: the promises stand in ../shared/DOC.md.
 *
 * <p>A thing is held as one number, weight * 6 + letter, so that things that are like each other
 * are equal numbers.
 */
public final class Leastbag {
    private static final int NONE = -1;
    private static final int REFUSED = -9;
    private static final int WEIGHTS = 100;
    private static final int LETTERS = 6;
    private static final int THINGS = WEIGHTS * LETTERS;
    private static final int ORDERS = 4;
    private static final int KINDS = 10;
    private static final int BAG_MOST = 60;
    private static final int LIST_MOST = 20;
    private static final int SET_MOST = 20;
    private static final int FILL_MOST = 30;
    private static final int HOUSE_ASKED = 6;
    /** The search in a bag goes by halves of this: its steps together (63) reach over a full bag. */
    private static final int WIDEST_STEP = 32;

    private final Bag[] bags = {new Bag(), new Bag(), new Bag(), new Bag()};
    private final Row laid = new Row();
    private final Bag joined = new Bag();
    /** What isSound() takes things out of; made once, for the room of a run is small. */
    private final Bag spare = new Bag();
    /** Every text is written here, for the same reason. */
    private final StringBuilder text = new StringBuilder();
    private int walkBag = NONE;
    private int walkOver;
    private int walkWeight;
    private int refusals;
    private int knocks;

    public Leastbag() {
    }

    // ---- made

    public int make(int bag, int order, int room) throws IndexOutOfBoundsException, IllegalArgumentException {
        Bag made = bagTold(bag);
        tested(order, ORDERS);
        tested(room, BAG_MOST + 1);
        endWalkOf(bag);
        if (room == 0) {
            return refused();
        }
        int had = made.howMany();
        made.makeEmpty(order);
        return had;
    }

    public int makeLike(int bag, int other) throws IndexOutOfBoundsException {
        Bag made = bagTold(bag);
        Bag model = bagTold(other);
        endWalkOf(bag);
        endWalkOf(other);
        made.makeSame(model);
        return made.howMany();
    }

    public int makeOfList(int bag) throws IndexOutOfBoundsException {
        Bag made = bagTold(bag);
        endWalkOf(bag);
        made.makeEmpty(0);
        made.putRow(laid);
        return made.howMany();
    }

    public int makeOfSet(int bag) throws IndexOutOfBoundsException {
        Bag made = bagTold(bag);
        endWalkOf(bag);
        made.makeSame(joined);
        return made.howMany();
    }

    // ---- in

    public int add(int bag, int weight, int letter)
            throws IndexOutOfBoundsException, IllegalArgumentException, IllegalStateException {
        return putIn(bag, weight, letter);
    }

    public int offer(int bag, int weight, int letter)
            throws IndexOutOfBoundsException, IllegalArgumentException, IllegalStateException {
        return putIn(bag, weight, letter);
    }

    public int fill(int bag, int many, int from, int by)
            throws IndexOutOfBoundsException, IllegalArgumentException, IllegalStateException {
        Bag filled = bagTold(bag);
        tested(many, FILL_MOST + 1);
        tested(from, WEIGHTS);
        tested(by, WEIGHTS);
        testRoom(filled.howMany() + many, BAG_MOST);
        endWalkOf(bag);
        for (int k = 0; k < many; k++) {
            filled.put(thingOf((from + k * by) % WEIGHTS, k % LETTERS));
        }
        return filled.howMany();
    }

    public int addNothing(int bag, boolean isOffered) throws IndexOutOfBoundsException {
        bagTold(bag);
        endWalkOf(bag);
        return refused();
    }

    public int addAll(int bag, int other) throws IndexOutOfBoundsException, IllegalStateException {
        Bag filled = bagTold(bag);
        Bag source = bagTold(other);
        if (bag != other) {
            testRoom(filled.howMany() + source.howMany(), BAG_MOST);
        }
        endWalkOf(bag);
        endWalkOf(other);
        if (bag == other) {
            return refused();
        }
        for (int k = 0; k < source.howMany(); k++) {
            filled.put(source.thingAt(k));
        }
        return filled.howMany();
    }

    public int addList(int bag) throws IndexOutOfBoundsException, IllegalStateException {
        Bag filled = bagTold(bag);
        testRoom(filled.howMany() + laid.howMany(), BAG_MOST);
        endWalkOf(bag);
        filled.putRow(laid);
        return laid.howMany() > 0 ? 1 : 0;
    }

    // ---- out

    public String poll(int bag) throws IndexOutOfBoundsException {
        Bag asked = bagTold(bag);
        endWalkOf(bag);
        if (asked.howMany() == 0) {
            return "-";
        }
        return textOf(asked.takeLeast());
    }

    public String take(int bag) throws IndexOutOfBoundsException {
        Bag asked = bagTold(bag);
        endWalkOf(bag);
        if (asked.howMany() == 0) {
            return refusedText();
        }
        return textOf(asked.takeLeast());
    }

    public boolean remove(int bag, int weight, int letter) throws IndexOutOfBoundsException, IllegalArgumentException {
        Bag asked = bagTold(bag);
        int thing = thingTold(weight, letter);
        endWalkOf(bag);
        return asked.takeLike(thing);
    }

    public int sweep(int bag, int kind) throws IndexOutOfBoundsException, IllegalArgumentException {
        Bag swept = bagTold(bag);
        tested(kind, KINDS);
        endWalkOf(bag);
        return swept.takeKind(kind);
    }

    public int clear(int bag) throws IndexOutOfBoundsException {
        Bag cleared = bagTold(bag);
        endWalkOf(bag);
        int had = cleared.howMany();
        cleared.makeEmpty(cleared.orderNow());
        return had;
    }

    public String pollAll(int bag) throws IndexOutOfBoundsException {
        Bag emptied = bagTold(bag);
        endWalkOf(bag);
        text.setLength(0);
        for (int left = emptied.howMany(); left > 0; left--) {
            writeNext(emptied.takeLeast());
        }
        return text.toString();
    }

    public int pour(int bag, int other) throws IndexOutOfBoundsException, IllegalStateException {
        Bag emptied = bagTold(bag);
        Bag filled = bagTold(other);
        if (bag != other) {
            testRoom(emptied.howMany() + filled.howMany(), BAG_MOST);
        }
        endWalkOf(bag);
        endWalkOf(other);
        if (bag == other) {
            return refused();
        }
        for (int left = emptied.howMany(); left > 0; left--) {
            filled.put(emptied.takeLeast());
        }
        return filled.howMany();
    }

    public int untimely(int bag) throws IndexOutOfBoundsException {
        bagTold(bag);
        endWalkOf(bag);
        return refused();
    }

    // ---- the list, the set

    public int lay(int weight, int letter) throws IllegalArgumentException, IllegalStateException {
        int thing = thingTold(weight, letter);
        testRoom(laid.howMany() + 1, LIST_MOST);
        laid.insertAt(laid.howMany(), thing);
        return laid.howMany();
    }

    public int unlay() throws IllegalStateException {
        if (laid.howMany() == 0) {
            throw new IllegalStateException("the list has no thing");
        }
        laid.dropAt(laid.howMany() - 1);
        return laid.howMany();
    }

    public boolean join(int weight, int letter) throws IllegalArgumentException, IllegalStateException {
        int thing = thingTold(weight, letter);
        testRoom(joined.howMany() + 1, SET_MOST);
        if (joined.howManyLike(thing) > 0) {
            return false;
        }
        joined.put(thing);
        return true;
    }

    public boolean leave(int weight, int letter) throws IllegalArgumentException {
        return joined.takeLike(thingTold(weight, letter));
    }

    public int setOrder(int order) throws IllegalArgumentException {
        tested(order, ORDERS);
        int before = joined.orderNow();
        joined.arrange(order);
        return before;
    }

    // ---- the walk

    public int walk(int bag) throws IndexOutOfBoundsException {
        Bag walkedBag = bagTold(bag);
        walkBag = bag;
        walkOver = 0;
        walkWeight = 0;
        return walkedBag.howMany();
    }

    public int step() throws IllegalStateException {
        Bag walkedBag = bagOfWalk();
        if (walkOver >= walkedBag.howMany()) {
            return refused();
        }
        walkWeight += weightOf(walkedBag.thingAt(walkOver));
        walkOver++;
        return walkOver;
    }

    public boolean isMore() {
        if (walkBag < 0 || walkBag >= bags.length) {
            return false;
        }
        return walkOver < bags[walkBag].howMany();
    }

    public int walked(int what) throws IllegalArgumentException, IllegalStateException {
        tested(what, 2);
        Bag walkedBag = bagOfWalk();
        if (what == 0) {
            return walkOver;
        }
        return walkOver < walkedBag.howMany() ? NONE : walkWeight;
    }

    // ---- asked

    public String peek(int bag) throws IndexOutOfBoundsException {
        Bag asked = bagTold(bag);
        text.setLength(0);
        writeLeast(asked);
        return text.toString();
    }

    public String element(int bag) throws IndexOutOfBoundsException {
        Bag asked = bagTold(bag);
        if (asked.howMany() == 0) {
            return refusedText();
        }
        return textOf(asked.thingAt(0));
    }

    public boolean contains(int bag, int weight, int letter) throws IndexOutOfBoundsException, IllegalArgumentException {
        return count(bag, weight, letter) > 0;
    }

    public int count(int bag, int weight, int letter) throws IndexOutOfBoundsException, IllegalArgumentException {
        Bag asked = bagTold(bag);
        return asked.howManyLike(thingTold(weight, letter));
    }

    public int total(int bag, int kind, boolean isWeight) throws IndexOutOfBoundsException, IllegalArgumentException {
        Bag asked = bagTold(bag);
        tested(kind, KINDS);
        return totalOf(asked, kind, isWeight);
    }

    public int size(int bag) throws IndexOutOfBoundsException {
        return bagTold(bag).howMany();
    }

    public boolean isEmpty(int bag) throws IndexOutOfBoundsException {
        return bagTold(bag).howMany() == 0;
    }

    public int orderOf(int bag) throws IndexOutOfBoundsException {
        return bagTold(bag).orderNow();
    }

    public int ahead(int bag, int weight, int letter, int otherWeight, int otherLetter)
            throws IndexOutOfBoundsException, IllegalArgumentException {
        Bag asked = bagTold(bag);
        int one = asked.rankNow(thingTold(weight, letter));
        int another = asked.rankNow(thingTold(otherWeight, otherLetter));
        if (one == another) {
            return 0;
        }
        return one < another ? -1 : 1;
    }

    public String sorted(int bag) throws IndexOutOfBoundsException {
        return rowOf(bagTold(bag));
    }

    public String nth(int bag, int k) throws IndexOutOfBoundsException {
        Bag asked = bagTold(bag);
        testPlace(k, asked.howMany());
        return textOf(asked.thingAt(k));
    }

    public boolean areAlike(int bag, int other) throws IndexOutOfBoundsException {
        Bag one = bagTold(bag);
        Bag another = bagTold(other);
        if (one.howMany() != another.howMany()) {
            return false;
        }
        for (int k = 0; k < one.howMany(); k++) {
            int thing = one.thingAt(k);
            if (one.howManyLike(thing) != another.howManyLike(thing)) {
                return false;
            }
        }
        return true;
    }

    public int beyond(int bag) throws IndexOutOfBoundsException {
        return bagTold(bag).howMany();
    }

    public String list(int k) throws IndexOutOfBoundsException {
        testPlace(k, laid.howMany());
        return textOf(laid.thingAt(k));
    }

    public String set() {
        return rowOf(joined);
    }

    // ---- all

    public int house(int what) throws IllegalArgumentException {
        tested(what, HOUSE_ASKED);
        switch (what) {
            case 0:
                return thingsInBags();
            case 1:
                return laid.howMany();
            case 2:
                return joined.howMany();
            case 3:
                return walkBag;
            case 4:
                return refusals;
            default:
                return knocks;
        }
    }

    public int knock() {
        knocks++;
        return knocks;
    }

    public boolean isSound() {
        for (int bag = 0; bag < bags.length; bag++) {
            if (!isBagSound(bags[bag])) {
                return false;
            }
        }
        return true;
    }

    public long digest() {
        long d = 7734;
        for (int what = 0; what < HOUSE_ASKED; what++) {
            d = mixed(d, house(what));
        }
        for (int bag = 0; bag < bags.length; bag++) {
            d = mixedBag(d, bags[bag]);
        }
        text.setLength(0);
        for (int k = 0; k < laid.howMany(); k++) {
            writeThing(laid.thingAt(k));
        }
        writeRow(joined);
        d = mixedText(d);
        d = mixed(d, isMore() ? 1 : 0);
        return mixed(d, isSound() ? 1 : 0);
    }

    // ---- what is told, tested

    private Bag bagTold(int bag) {
        if (bag < 0 || bag >= bags.length) {
            throw new IndexOutOfBoundsException("there is no such bag");
        }
        return bags[bag];
    }

    private Bag bagOfWalk() {
        if (walkBag < 0 || walkBag >= bags.length) {
            throw new IllegalStateException("there is no walk");
        }
        return bags[walkBag];
    }

    private static int thingTold(int weight, int letter) {
        tested(weight, WEIGHTS);
        tested(letter, LETTERS);
        return thingOf(weight, letter);
    }

    private static void tested(int told, int bound) {
        if (told < 0 || told >= bound) {
            throw new IllegalArgumentException("a number is told that is not allowed there");
        }
    }

    private static void testPlace(int place, int bound) {
        if (place < 0 || place >= bound) {
            throw new IndexOutOfBoundsException("there is no such place");
        }
    }

    private static void testRoom(int wanted, int most) {
        if (wanted > most) {
            throw new IllegalStateException("there is no room for that many things");
        }
    }

    private int refused() {
        refusals++;
        return REFUSED;
    }

    private String refusedText() {
        refusals++;
        return "!";
    }

    // ---- helpers of the calls

    private int putIn(int bag, int weight, int letter) {
        Bag filled = bagTold(bag);
        int thing = thingTold(weight, letter);
        testRoom(filled.howMany() + 1, BAG_MOST);
        endWalkOf(bag);
        filled.put(thing);
        return filled.howMany();
    }

    private void endWalkOf(int bag) {
        if (walkBag == bag) {
            walkBag = NONE;
        }
    }

    private int thingsInBags() {
        int sum = 0;
        for (int bag = 0; bag < bags.length; bag++) {
            sum += bags[bag].howMany();
        }
        return sum;
    }

    private static int totalOf(Bag bag, int kind, boolean isWeight) {
        int sum = 0;
        for (int k = 0; k < bag.howMany(); k++) {
            int thing = bag.thingAt(k);
            if (isOfKind(thing, kind)) {
                sum += isWeight ? weightOf(thing) : 1;
            }
        }
        return sum;
    }

    // ---- whether all is sound

    private boolean isBagSound(Bag bag) {
        int before = bag.howMany();
        spare.makeSame(bag);
        int first = spare.thingAt(0);
        int last = first;
        int taken = 0;
        int weights = 0;
        for (int left = before; left > 0 && spare.howMany() > 0; left--) {
            int thing = spare.takeLeast();
            if (bag.rankNow(thing) < bag.rankNow(last)) {
                return false;
            }
            last = thing;
            taken++;
            weights += weightOf(thing);
        }
        return taken == before && spare.howMany() == 0
                && isWhole(bag, first, weights) && bag.howMany() == before;
    }

    private static boolean isWhole(Bag bag, int first, int weights) {
        int sum = 0;
        for (int k = 0; k < bag.howMany(); k++) {
            int thing = bag.thingAt(k);
            if (bag.rankNow(thing) < bag.rankNow(first) || bag.howManyLike(thing) == 0) {
                return false;
            }
            sum += weightOf(thing);
        }
        return sum == weights;
    }

    // ---- the checksum

    private static long mixed(long d, long v) {
        return d * 31 + v;
    }

    private long mixedText(long d) {
        long mix = d;
        for (int k = 0; k < text.length(); k++) {
            mix = mixed(mix, text.charAt(k));
        }
        return mix;
    }

    private long mixedBag(long d, Bag bag) {
        long mix = mixed(mixed(d, bag.howMany()), bag.orderNow());
        text.setLength(0);
        writeLeast(bag);
        writeRow(bag);
        mix = mixedText(mix);
        for (int kind = 0; kind < KINDS; kind++) {
            mix = mixed(mix, totalOf(bag, kind, false));
            mix = mixed(mix, totalOf(bag, kind, true));
        }
        return mix;
    }

    // ---- texts

    private String textOf(int thing) {
        text.setLength(0);
        writeThing(thing);
        return text.toString();
    }

    private String rowOf(Bag bag) {
        text.setLength(0);
        writeRow(bag);
        return text.toString();
    }

    /** Sign by sign, for a number that is appended whole may be made a text of its own first. */
    private void writeThing(int thing) {
        int weight = weightOf(thing);
        if (weight >= 10) {
            text.append((char) ('0' + weight / 10));
        }
        text.append((char) ('0' + weight % 10));
        text.append((char) ('a' + letterOf(thing)));
    }

    private void writeNext(int thing) {
        if (text.length() > 0) {
            text.append(' ');
        }
        writeThing(thing);
    }

    private void writeLeast(Bag bag) {
        if (bag.howMany() == 0) {
            text.append('-');
        } else {
            writeThing(bag.thingAt(0));
        }
    }

    private void writeRow(Bag bag) {
        for (int k = 0; k < bag.howMany(); k++) {
            if (k > 0) {
                text.append(' ');
            }
            writeThing(bag.thingAt(k));
        }
    }

    // ---- things

    private static int thingOf(int weight, int letter) {
        return weight * LETTERS + letter;
    }

    private static int weightOf(int thing) {
        return thing / LETTERS;
    }

    private static int letterOf(int thing) {
        return thing % LETTERS;
    }

    private static boolean isOfKind(int thing, int kind) {
        int weight = weightOf(thing);
        switch (kind) {
            case 6:
                return weight % 2 == 0;
            case 7:
                return weight % 2 != 0;
            case 8:
                return weight >= 50;
            case 9:
                return true;
            default:
                return letterOf(thing) == kind;
        }
    }

    /** The place of a thing among all that there can be, by an order: the lesser one stands ahead. */
    private static int rankOf(int order, int thing) {
        int weight = thing / LETTERS;
        int letter = thing % LETTERS;
        switch (order) {
            case 1:
                return THINGS - 1 - thing;
            case 2:
                return letter * WEIGHTS + weight;
            case 3:
                int lastDigit = weight % 10;
                int tensTurned = 9 - weight / 10;
                return (lastDigit * 10 + tensTurned) * LETTERS + letter;
            default:
                return thing;
        }
    }

    /** Things one behind the other. */
    private static final class Row {
        private final int[] things = new int[BAG_MOST];
        private int many;

        int howMany() {
            return many;
        }

        int thingAt(int place) {
            if (place < 0 || place >= many || place >= things.length) {
                return NONE;
            }
            return things[place];
        }

        void insertAt(int place, int thing) {
            if (place < 0 || place > many || many >= things.length) {
                return;
            }
            for (int k = many; k > place; k--) {
                things[k] = things[k - 1];
            }
            things[place] = thing;
            many++;
        }

        void dropAt(int place) {
            if (place < 0 || place >= many || many > things.length) {
                return;
            }
            for (int k = place; k + 1 < many; k++) {
                things[k] = things[k + 1];
            }
            many--;
        }

        void drain() {
            many = 0;
        }
    }

    /** Things by an order. */
    private static final class Bag {
        /** The least one stands last here, for so no other one has to move when it goes. */
        private final Row turned = new Row();
        private int order;

        int howMany() {
            return turned.howMany();
        }

        int orderNow() {
            return order;
        }

        int rankNow(int thing) {
            return rankOf(order, thing);
        }

        int thingAt(int place) {
            return turned.thingAt(turned.howMany() - 1 - place);
        }

        void makeEmpty(int newOrder) {
            turned.drain();
            order = newOrder;
        }

        void makeSame(Bag other) {
            if (other == this) {
                return;
            }
            makeEmpty(other.order);
            for (int k = 0; k < other.turned.howMany(); k++) {
                turned.insertAt(k, other.turned.thingAt(k));
            }
        }

        void put(int thing) {
            turned.insertAt(howManyBehind(thing, turned.howMany()), thing);
        }

        void putRow(Row row) {
            for (int k = 0; k < row.howMany(); k++) {
                put(row.thingAt(k));
            }
        }

        int takeLeast() {
            int thing = thingAt(0);
            turned.dropAt(turned.howMany() - 1);
            return thing;
        }

        boolean takeLike(int thing) {
            int place = howManyBehind(thing, turned.howMany());
            if (turned.thingAt(place) != thing) {
                return false;
            }
            turned.dropAt(place);
            return true;
        }

        int takeKind(int kind) {
            int taken = 0;
            for (int k = turned.howMany() - 1; k >= 0; k--) {
                if (isOfKind(turned.thingAt(k), kind)) {
                    turned.dropAt(k);
                    taken++;
                }
            }
            return taken;
        }

        int howManyLike(int thing) {
            int behind = howManyBehind(thing, turned.howMany());
            int place = behind;
            while (place < turned.howMany() && turned.thingAt(place) == thing) {
                place++;
            }
            return place - behind;
        }

        /** Each thing is put anew among those in front of it, which stand by the new order already. */
        void arrange(int newOrder) {
            order = newOrder;
            for (int k = 1; k < turned.howMany(); k++) {
                int thing = turned.thingAt(k);
                turned.dropAt(k);
                turned.insertAt(howManyBehind(thing, k), thing);
            }
        }

        /** How many of the first ones stand behind a thing by the order; they stand in front of the others. */
        private int howManyBehind(int thing, int among) {
            int rank = rankOf(order, thing);
            int behind = 0;
            for (int step = WIDEST_STEP; step > 0; step /= 2) {
                int place = behind + step - 1;
                if (place < among && rankOf(order, turned.thingAt(place)) > rank) {
                    behind += step;
                }
            }
            return behind;
        }
    }
}
