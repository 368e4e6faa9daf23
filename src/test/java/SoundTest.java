import java.lang.reflect.Field;

/**
 * isSound() where it has to answer false, which no run of calls brings about: so this test alone
 * reaches into the class and spoils a bag. It has to be written anew if a bag is held otherwise.
 */
public final class SoundTest {
    public static void main(String[] args) throws Exception {
        for (int bag = 0; bag < 4; bag++) {
            swapped(bag, 2);
            swapped(bag, 3);
            swapped(bag, 60);
            byAnotherOrder(bag);
            falselyCounted(bag, 60, 61);
            falselyCounted(bag, 0, -1);
        }
        Check.end("SoundTest");
    }

    private interface Change {
        void of(Leastbag x) throws Exception;
    }

    /** Sound, then spoiled, then mended again; the last number in the digest goes with it. */
    private static void spoils(String how, Leastbag x, Change spoil, Change mend) throws Exception {
        long before = x.digest();
        Check.due("46 isSound: ahead of it, " + how, x.isSound(), true);
        spoil.of(x);
        Check.due("46 isSound: " + how, x.isSound(), false);
        Check.due("46 isSound: it mends nothing, " + how, x.isSound(), false);
        Check.due("47 digest: 0 if not sound, " + how, x.digest(), Edge.digestByOtherCalls(x));
        mend.of(x);
        Check.due("46 isSound: behind it, " + how, x.isSound(), true);
        Check.due("47 digest: as before, " + how, x.digest(), before);
    }

    /** Things that stand side by side, one ahead of the other one, are exchanged, wherever they stand. */
    private static void swapped(int bag, int many) throws Exception {
        for (int k = 0; k + 1 < many; k++) {
            int place = k;
            Leastbag x = different(bag, many);
            Change swap = y -> swap(y, bag, place);
            spoils("bag " + bag + " of " + many + ", exchanged at " + k, x, swap, swap);
        }
    }

    private static void byAnotherOrder(int bag) throws Exception {
        for (int order = 1; order < 4; order++) {
            int other = order;
            spoils("bag " + bag + ", order " + order + " of a row by 0", different(bag, 20),
                    x -> order(x, bag, other), x -> order(x, bag, 0));
        }
    }

    private static void falselyCounted(int bag, int many, int falsely) throws Exception {
        spoils("bag " + bag + " of " + many + ", counted " + falsely, different(bag, many),
                x -> count(x, bag, falsely), x -> count(x, bag, many));
    }

    /** So many things in a bag by order 0, no two of them like each other. */
    private static Leastbag different(int bag, int many) {
        Leastbag x = new Leastbag();
        for (int k = 0; k < many; k++) {
            x.add(bag, k * 37 % 100, k % 6);
        }
        return x;
    }

    // ---- how a bag is held

    private static void swap(Leastbag x, int bag, int place) throws Exception {
        int[] things = (int[]) open(rowOf(x, bag), "things");
        int thing = things[place];
        things[place] = things[place + 1];
        things[place + 1] = thing;
    }

    private static void order(Leastbag x, int bag, int order) throws Exception {
        field(bagOf(x, bag), "order").setInt(bagOf(x, bag), order);
    }

    private static void count(Leastbag x, int bag, int many) throws Exception {
        field(rowOf(x, bag), "many").setInt(rowOf(x, bag), many);
    }

    private static Object rowOf(Leastbag x, int bag) throws Exception {
        return open(bagOf(x, bag), "turned");
    }

    private static Object bagOf(Leastbag x, int bag) throws Exception {
        return ((Object[]) open(x, "bags"))[bag];
    }

    private static Object open(Object of, String name) throws Exception {
        return field(of, name).get(of);
    }

    private static Field field(Object of, String name) throws Exception {
        Field field = of.getClass().getDeclaredField(name);
        field.setAccessible(true);
        return field;
    }
}
