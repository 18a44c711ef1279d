/** Promises 6 to 11: views. */
public final class ViewsTest {
    private static final Class<IndexOutOfBoundsException> BOUNDS = IndexOutOfBoundsException.class;
    private static final Class<IllegalArgumentException> ARGUMENT = IllegalArgumentException.class;
    private static final Class<IllegalStateException> STATE = IllegalStateException.class;
    private static final Class<UnsupportedOperationException> UNSUPPORTED = UnsupportedOperationException.class;

    public static void main(String[] args) {
        star();
        pick();
        pickWrongly();
        filter();
        join();
        joinWrongly();
        union();
        sum();
        sumOfNothing();
        fullCatalogue();
        Check.end();
    }

    private static QueryLineage twoTables() {
        QueryLineage x = new QueryLineage();
        Fixture.table(x, new int[] {5, 10, -1}, new int[] {3, 20, 10}, new int[] {8, 10, 30});
        Fixture.table(x, new int[] {1, 10, 7}, new int[] {2, 30, -1}, new int[] {4, 10, -1});
        return x;
    }

    private static void star() {
        QueryLineage x = twoTables();
        Check.same("star", x.star(0), 2);
        Check.same("rows of a star", Fixture.shown(x, 2), "[[5, 10, -1], [3, 20, 10], [8, 10, 30]]");
        x.addColumn(0, false);
        x.set(0, 1, 3, 6);
        Check.same("a star with a later column", Fixture.shown(x, 2), "[[5, 10, -1, 0], [3, 20, 10, 6], [8, 10, 30, 0]]");
        Check.fails("star(-1)", BOUNDS, () -> x.star(-1));
        Check.fails("star(3)", BOUNDS, () -> x.star(3));
    }

    private static void pick() {
        QueryLineage x = twoTables();
        Check.same("pick of one", x.pick(0, 2, -1, -1), 2);
        Check.same("pick of two", x.pick(0, 2, 0, -1), 3);
        Check.same("pick of three", x.pick(0, 1, 0, 1), 4);
        Check.same("rows of one", Fixture.shown(x, 2), "[[-1], [10], [30]]");
        Check.same("rows of two", Fixture.shown(x, 3), "[[-1, 5], [10, 3], [30, 8]]");
        Check.same("rows of three", Fixture.shown(x, 4), "[[10, 5, 10], [20, 3, 20], [10, 8, 10]]");
    }

    private static void pickWrongly() {
        QueryLineage x = twoTables();
        Check.fails("no relation", BOUNDS, () -> x.pick(2, 0, -1, 0));
        Check.fails("first is none", BOUNDS, () -> x.pick(0, -1, -1, -1));
        Check.fails("first is 3", BOUNDS, () -> x.pick(0, 3, -1, -1));
        Check.fails("second is 3", BOUNDS, () -> x.pick(0, 0, 3, -1));
        Check.fails("second is -2", BOUNDS, () -> x.pick(0, 0, -2, -1));
        Check.fails("third is 3, ahead of no second", BOUNDS, () -> x.pick(0, 0, -1, 3));
        Check.fails("third is -2", BOUNDS, () -> x.pick(0, 0, 1, -2));
        Check.fails("third without second", ARGUMENT, () -> x.pick(0, 0, -1, 1));
        Check.same("nothing was added", x.relations(), 2);
    }

    private static void filter() {
        QueryLineage x = twoTables();
        Check.same("filter", x.filter(0, 1, 20), 2);
        x.filter(0, 2, 0);
        x.filter(0, 0, 99);
        Check.same("not less than 20", Fixture.shown(x, 2), "[[3, 20, 10]]");
        Check.same("nothing is passed over", Fixture.shown(x, 3), "[[3, 20, 10], [8, 10, 30]]");
        Check.same("no rows", Fixture.shown(x, 4), "[]");
        x.set(0, 0, 1, 21);
        Check.same("found anew", Fixture.shown(x, 2), "[[5, 21, -1], [3, 20, 10]]");
        Check.fails("no relation", BOUNDS, () -> x.filter(5, 0, 100));
        Check.fails("no column", BOUNDS, () -> x.filter(0, 3, 100));
        Check.fails("no column -1", BOUNDS, () -> x.filter(0, -1, 0));
        Check.fails("100", ARGUMENT, () -> x.filter(0, 0, 100));
        Check.fails("-1", ARGUMENT, () -> x.filter(0, 0, -1));
    }

    private static void join() {
        QueryLineage x = twoTables();
        Check.same("join", x.join(0, 1, 1, 1, false), 2);
        Check.same("outer join", x.join(0, 1, 1, 1, true), 3);
        Check.same("join with itself", x.join(0, 0, 1, 2, false), 4);
        x.join(0, 1, 2, 2, true);
        Check.same("rows of a join", Fixture.shown(x, 2),
            "[[5, 10, -1, 1, 10, 7], [5, 10, -1, 4, 10, -1], [8, 10, 30, 1, 10, 7], [8, 10, 30, 4, 10, -1]]");
        Check.same("rows of an outer join", Fixture.shown(x, 3),
            "[[5, 10, -1, 1, 10, 7], [5, 10, -1, 4, 10, -1], [3, 20, 10, -1, -1, -1], "
                + "[8, 10, 30, 1, 10, 7], [8, 10, 30, 4, 10, -1]]");
        Check.same("rows of a join with itself", Fixture.shown(x, 4),
            "[[5, 10, -1, 3, 20, 10], [8, 10, 30, 3, 20, 10]]");
        Check.same("nothing is no number that is the same", Fixture.shown(x, 5),
            "[[5, 10, -1, -1, -1, -1], [3, 20, 10, -1, -1, -1], [8, 10, 30, -1, -1, -1]]");
    }

    private static void joinWrongly() {
        QueryLineage x = twoTables();
        x.join(0, 1, 0, 0, false);
        Check.fails("no first", BOUNDS, () -> x.join(3, 2, 0, 0, false));
        Check.fails("no second", BOUNDS, () -> x.join(2, 3, 0, 0, false));
        Check.fails("no column of the first", BOUNDS, () -> x.join(2, 2, 6, 0, false));
        Check.fails("no column of the second", BOUNDS, () -> x.join(2, 2, 0, -1, false));
        Check.fails("9 columns", UNSUPPORTED, () -> x.join(2, 0, 0, 0, true));
        x.pick(0, 0, 1, -1);
        Check.same("8 columns", x.join(2, 3, 0, 0, true), 4);
        Check.same("columns", x.columns(4), 8);
    }

    private static void union() {
        QueryLineage x = twoTables();
        Check.same("union", x.union(0, 1), 2);
        Check.same("rows of a union", Fixture.shown(x, 2),
            "[[5, 10, -1], [3, 20, 10], [8, 10, 30], [1, 10, 7], [2, 30, -1], [4, 10, -1]]");
        x.pick(0, 0, -1, -1);
        Check.same("union with itself", x.union(3, 3), 4);
        Check.same("rows twice", Fixture.shown(x, 4), "[[5], [3], [8], [5], [3], [8]]");
        Check.fails("no first", BOUNDS, () -> x.union(5, 0));
        Check.fails("no second", BOUNDS, () -> x.union(0, -1));
        Check.fails("unlike numbers of columns", UNSUPPORTED, () -> x.union(0, 3));
    }

    private static void sum() {
        QueryLineage x = twoTables();
        Check.same("sum", x.sum(0, 1, 0), 2);
        Check.same("groups ascend", Fixture.shown(x, 2), "[[10, 13], [20, 3]]");
        x.sum(0, 1, 1);
        Check.same("sum of the group", Fixture.shown(x, 3), "[[10, 20], [20, 20]]");
        x.sum(1, 1, 2);
        Check.same("no numbers to sum", Fixture.shown(x, 4), "[[10, 7], [30, -1]]");
        x.sum(0, 2, 1);
        Check.same("nothing as the last group", Fixture.shown(x, 5), "[[10, 20], [30, 10], [-1, 10]]");
        Check.fails("no relation", BOUNDS, () -> x.sum(6, 0, 0));
        Check.fails("no group", BOUNDS, () -> x.sum(0, 3, 0));
        Check.fails("no other column", BOUNDS, () -> x.sum(0, 0, 3));
        Check.fails("no other column -1", BOUNDS, () -> x.sum(0, 0, -1));
    }

    private static void sumOfNothing() {
        QueryLineage x = new QueryLineage();
        Fixture.table(x, new int[] {0, 0, -1}, new int[] {1, 0, -1});
        x.sum(0, 2, 2);
        Check.same("one group of nothing", Fixture.shown(x, 1), "[[-1, -1]]");
        x.sum(0, 1, 1);
        Check.same("a sum of 0 is not nothing", Fixture.shown(x, 2), "[[0, 0]]");
        x.addTable();
        x.sum(3, 0, 0);
        Check.same("no groups", Fixture.shown(x, 4), "[]");
    }

    private static void fullCatalogue() {
        QueryLineage x = twoTables();
        for (int view = 2; view < 10; view++) {
            Check.same("star", x.star(view % 2), view);
        }
        Check.fails("no room for a star", STATE, () -> x.star(0));
        Check.fails("no room for a pick", STATE, () -> x.pick(0, 0, -1, -1));
        Check.fails("no room for a filter", STATE, () -> x.filter(0, 0, 0));
        Check.fails("no room for a join", STATE, () -> x.join(0, 1, 0, 0, false));
        Check.fails("no room for a union", STATE, () -> x.union(0, 1));
        Check.fails("no room for a sum", STATE, () -> x.sum(0, 0, 0));
        Check.fails("no column, and no room for a star", BOUNDS, () -> x.star(10));
        Check.fails("no column, and no room for a sum", BOUNDS, () -> x.sum(0, 0, 9));
        Check.fails("wrong pick, and no room", ARGUMENT, () -> x.pick(0, 0, -1, 0));
        Check.fails("wrong filter, and no room", ARGUMENT, () -> x.filter(0, 0, 100));
        x.addColumn(0, true);
        Check.fails("unlike union, and no room", UNSUPPORTED, () -> x.union(0, 1));
        x.addColumn(0, true);
        Check.fails("wide join, and no room", UNSUPPORTED, () -> x.join(0, 0, 0, 0, false));
        Check.same("relations", x.relations(), 10);
    }
}
