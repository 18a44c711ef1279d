/** Promises 6 to 11: each exception, the first one of two, and that a refused call changes nothing. */
public final class RefusedViewsTest {
    /** What no relation is, in the catalogue and in the full one. */
    private static final int[] NO_RELATIONS = Refused.outside(9);
    private static final int[] NONE_OF_TEN = Refused.outside(10);

    public static void main(String[] args) {
        star();
        pickWithoutColumn();
        pickOfThirdWithoutSecond();
        filter();
        joinWithoutColumn();
        joinOfNineColumns();
        union();
        sum();
        Check.end();
    }

    private static void refused(String what, Class<? extends RuntimeException> due, Refused.Asked asked) {
        Refused.call(what, Fixture::catalogue, due, asked);
    }

    private static void refusedIfFull(String what, Class<? extends RuntimeException> due, Refused.Asked asked) {
        Refused.call(what + ", full", Fixture::fullCatalogue, due, asked);
    }

    private static void star() {
        for (int source : NO_RELATIONS) {
            refused("6: no relation " + source, Refused.BOUNDS, x -> x.star(source));
        }
        for (int source : NONE_OF_TEN) {
            refusedIfFull("6: no relation " + source, Refused.BOUNDS, x -> x.star(source));
        }
        refusedIfFull("6: table", Refused.STATE, x -> x.star(0));
        refusedIfFull("6: last relation", Refused.STATE, x -> x.star(9));
    }

    private static void pickWithoutColumn() {
        for (int source : NO_RELATIONS) {
            refused("7: no relation " + source, Refused.BOUNDS, x -> x.pick(source, 0, 0, 0));
            refused("7: no relation and no second", Refused.BOUNDS, x -> x.pick(source, 0, -1, 0));
        }
        for (int column : Refused.outside(3)) {
            refused("7: no first " + column, Refused.BOUNDS, x -> x.pick(0, column, 0, 0));
            refused("7: no first " + column + " and no second", Refused.BOUNDS, x -> x.pick(0, column, -1, 0));
            refusedIfFull("7: no first " + column, Refused.BOUNDS, x -> x.pick(0, column, -1, -1));
        }
        for (int column : Refused.outsideOrNone(3)) {
            refused("7: no second " + column, Refused.BOUNDS, x -> x.pick(0, 0, column, -1));
            refused("7: no second " + column + " ahead of a third", Refused.BOUNDS, x -> x.pick(0, 0, column, 0));
            refused("7: no third " + column, Refused.BOUNDS, x -> x.pick(0, 0, 1, column));
            refused("7: no third " + column + " behind no second", Refused.BOUNDS, x -> x.pick(0, 0, -1, column));
            refusedIfFull("7: no third " + column, Refused.BOUNDS, x -> x.pick(0, 0, 1, column));
        }
        for (int column : Refused.outside(2)) {
            refused("7: no column " + column + " of a view", Refused.BOUNDS, x -> x.pick(3, column, -1, -1));
        }
        refused("7: a table's column that the pick does not show", Refused.BOUNDS, x -> x.pick(3, 0, 1, 2));
        refusedIfFull("7: no relation", Refused.BOUNDS, x -> x.pick(10, 0, -1, -1));
        refusedIfFull("7: pick", Refused.STATE, x -> x.pick(0, 0, -1, -1));
        refusedIfFull("7: pick of three", Refused.STATE, x -> x.pick(0, 0, 1, 2));
    }

    private static void pickOfThirdWithoutSecond() {
        for (int third = 0; third < 3; third++) {
            int asked = third;
            refused("7: third " + third + " without second", Refused.ARGUMENT, x -> x.pick(0, 0, -1, asked));
            refusedIfFull("7: third " + third + " without second", Refused.ARGUMENT, x -> x.pick(0, 0, -1, asked));
        }
    }

    private static void filter() {
        for (int source : NO_RELATIONS) {
            refused("8: no relation " + source, Refused.BOUNDS, x -> x.filter(source, 0, 0));
            refused("8: no relation " + source + " and no number", Refused.BOUNDS, x -> x.filter(source, 0, 100));
        }
        for (int column : Refused.outside(3)) {
            refused("8: no column " + column, Refused.BOUNDS, x -> x.filter(0, column, 99));
            refused("8: no column " + column + " and no number", Refused.BOUNDS, x -> x.filter(0, column, -1));
            refusedIfFull("8: no column " + column, Refused.BOUNDS, x -> x.filter(0, column, 99));
        }
        for (int column : Refused.outside(6)) {
            refused("8: no column " + column + " of a join", Refused.BOUNDS, x -> x.filter(5, column, 0));
        }
        for (int least : Refused.outside(100)) {
            refused("8: not less than " + least, Refused.ARGUMENT, x -> x.filter(0, 0, least));
            refusedIfFull("8: not less than " + least, Refused.ARGUMENT, x -> x.filter(0, 0, least));
        }
        refusedIfFull("8: no relation", Refused.BOUNDS, x -> x.filter(10, 0, 0));
        refusedIfFull("8: 0", Refused.STATE, x -> x.filter(0, 2, 0));
        refusedIfFull("8: 99", Refused.STATE, x -> x.filter(9, 0, 99));
    }

    /** Relation 0 has three columns, 3 has two, and 5 six: each told column is one of its own source. */
    private static void joinWithoutColumn() {
        for (boolean isOuter : new boolean[] {false, true}) {
            for (int source : NO_RELATIONS) {
                refused("9: no first " + source, Refused.BOUNDS, x -> x.join(source, 0, 0, 0, isOuter));
                refused("9: no second " + source, Refused.BOUNDS, x -> x.join(0, source, 0, 0, isOuter));
            }
            for (int column : Refused.outside(2)) {
                refused("9: no column " + column + " of the first", Refused.BOUNDS,
                    x -> x.join(3, 0, column, 0, isOuter));
                refused("9: no column " + column + " of the second", Refused.BOUNDS,
                    x -> x.join(0, 3, 0, column, isOuter));
            }
        }
        for (int column : Refused.outside(6)) {
            refused("9: no column " + column + " of the first, 12 columns", Refused.BOUNDS,
                x -> x.join(5, 6, column, 0, false));
            refused("9: no column " + column + " of the second, 12 columns", Refused.BOUNDS,
                x -> x.join(5, 6, 0, column, false));
        }
        refused("9: no first, and a second of 6 columns", Refused.BOUNDS, x -> x.join(9, 5, 0, 0, false));
        refusedIfFull("9: no first", Refused.BOUNDS, x -> x.join(10, 0, 0, 0, false));
        refusedIfFull("9: no second", Refused.BOUNDS, x -> x.join(0, 10, 0, 0, false));
        refusedIfFull("9: no column of the first", Refused.BOUNDS, x -> x.join(0, 1, 3, 0, false));
        refusedIfFull("9: no column of the second", Refused.BOUNDS, x -> x.join(0, 1, 0, 3, false));
    }

    private static void joinOfNineColumns() {
        for (boolean isOuter : new boolean[] {false, true}) {
            refused("9: 6 and 3 columns", Refused.UNSUPPORTED, x -> x.join(5, 0, 0, 0, isOuter));
            refused("9: 3 and 6 columns", Refused.UNSUPPORTED, x -> x.join(0, 6, 2, 5, isOuter));
            refused("9: 6 columns twice", Refused.UNSUPPORTED, x -> x.join(5, 5, 5, 5, isOuter));
            refusedIfFull("9: 6 and 3 columns", Refused.UNSUPPORTED, x -> x.join(5, 0, 0, 0, isOuter));
            refusedIfFull("9: 6 and 2 columns", Refused.STATE, x -> x.join(5, 3, 0, 0, isOuter));
            refusedIfFull("9: a join with itself", Refused.STATE, x -> x.join(0, 0, 0, 0, isOuter));
        }
    }

    private static void union() {
        for (int source : NO_RELATIONS) {
            refused("10: no first " + source, Refused.BOUNDS, x -> x.union(source, 0));
            refused("10: no second " + source, Refused.BOUNDS, x -> x.union(0, source));
            refused("10: neither " + source, Refused.BOUNDS, x -> x.union(source, source));
        }
        refused("10: 3 and 2 columns", Refused.UNSUPPORTED, x -> x.union(0, 3));
        refused("10: 2 and 3 columns", Refused.UNSUPPORTED, x -> x.union(3, 0));
        refused("10: 6 and 3 columns", Refused.UNSUPPORTED, x -> x.union(5, 0));
        refusedIfFull("10: no first", Refused.BOUNDS, x -> x.union(10, 0));
        refusedIfFull("10: no second", Refused.BOUNDS, x -> x.union(0, 10));
        refusedIfFull("10: 3 and 2 columns", Refused.UNSUPPORTED, x -> x.union(0, 3));
        refusedIfFull("10: 3 and 3 columns", Refused.STATE, x -> x.union(0, 1));
        refusedIfFull("10: a union with itself", Refused.STATE, x -> x.union(9, 9));
    }

    private static void sum() {
        for (int source : NO_RELATIONS) {
            refused("11: no relation " + source, Refused.BOUNDS, x -> x.sum(source, 0, 0));
        }
        for (int column : Refused.outside(3)) {
            refused("11: no group " + column, Refused.BOUNDS, x -> x.sum(0, column, 0));
            refused("11: no other column " + column, Refused.BOUNDS, x -> x.sum(0, 0, column));
            refusedIfFull("11: no group " + column, Refused.BOUNDS, x -> x.sum(0, column, 0));
            refusedIfFull("11: no other column " + column, Refused.BOUNDS, x -> x.sum(0, 0, column));
        }
        for (int column : Refused.outside(2)) {
            refused("11: no group " + column + " of a view", Refused.BOUNDS, x -> x.sum(3, column, 0));
            refused("11: no other column " + column + " of a view", Refused.BOUNDS, x -> x.sum(3, 0, column));
        }
        refusedIfFull("11: no relation", Refused.BOUNDS, x -> x.sum(10, 0, 0));
        refusedIfFull("11: sum", Refused.STATE, x -> x.sum(0, 0, 1));
        refusedIfFull("11: sum of the group", Refused.STATE, x -> x.sum(9, 1, 1));
    }
}
