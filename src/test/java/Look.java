/**
 * All that is to be seen of a Leastbag by calls that change nothing, in three parts, since a call
 * that is refused may change the count of refusals and end the walk, and nothing else.
 */
record Look(String things, String walk, int refusals) {
    static Look at(Leastbag x) {
        return new Look(thingsOf(x), walkOf(x), x.house(4));
    }

    static final String NO_WALK = walkOf(new Leastbag());

    /** The same, with so many refusals more. */
    Look counted(int more) {
        return new Look(things, walk, refusals + more);
    }

    Look withoutWalk() {
        return new Look(things, NO_WALK, refusals);
    }

    private static String thingsOf(Leastbag x) {
        StringBuilder seen = new StringBuilder();
        for (int bag = 0; bag < 4; bag++) {
            seen.append("bag ").append(bag).append(" by ").append(x.orderOf(bag)).append(": ");
            seen.append(x.size(bag)).append(" (").append(x.sorted(bag)).append(")\n");
        }
        seen.append("all ").append(x.house(0)).append(", list ").append(x.house(1)).append(" (");
        for (int k = 0; k < x.house(1); k++) {
            seen.append(x.list(k)).append(' ');
        }
        seen.append("), set ").append(x.house(2)).append(" (").append(x.set()).append(") by ").append(setOrderOf(x));
        return seen.append(", knocks ").append(x.house(5)).append(", sound ").append(x.isSound()).toString();
    }

    /** Nothing tells the order of the set but setOrder() itself, so it is set and set back. */
    private static int setOrderOf(Leastbag x) {
        int order = x.setOrder(0);
        x.setOrder(order);
        return order;
    }

    private static String walkOf(Leastbag x) {
        return "bag " + x.house(3) + ", more " + x.isMore() + ", over " + Check.outcome(() -> x.walked(0))
                + ", weights " + Check.outcome(() -> x.walked(1));
    }
}
