/** Checks that calls are refused with the exception that is due, and change nothing. */
final class Refused {
    static final Class<IndexOutOfBoundsException> BOUNDS = IndexOutOfBoundsException.class;
    static final Class<IllegalArgumentException> ARGUMENT = IllegalArgumentException.class;
    static final Class<IllegalStateException> STATE = IllegalStateException.class;
    static final Class<UnsupportedOperationException> UNSUPPORTED = UnsupportedOperationException.class;

    interface Maker {
        QueryLineage make();
    }

    interface Asked {
        Object of(QueryLineage x);
    }

    private Refused() {
    }

    /** Makes an object for each relation, and one for none, so that each one is asked few enough calls. */
    static void call(String what, Maker maker, Class<? extends RuntimeException> due, Asked asked) {
        int relations = maker.make().relations();
        for (int relation = 0; relation <= relations; relation++) {
            QueryLineage x = maker.make();
            Check.fails(what, due, () -> asked.of(x));
            String after = Snapshot.of(x, relation);
            Check.same(what + ": relation " + relation + " afterwards", after, Snapshot.of(maker.make(), relation));
        }
    }

    /** The numbers next to those from 0 to count - 1, and the ones furthest from them. */
    static int[] outside(int count) {
        return new int[] {-1, count, Integer.MIN_VALUE, Integer.MAX_VALUE};
    }

    /** As outside, for a number that may also be -1 for none. */
    static int[] outsideOrNone(int count) {
        return new int[] {-2, count, Integer.MIN_VALUE, Integer.MAX_VALUE};
    }
}
