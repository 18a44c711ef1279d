/** Promises 18 to 28: traces. */
public final class TracesTest {
    private static final Class<IndexOutOfBoundsException> BOUNDS = IndexOutOfBoundsException.class;
    private static final Class<IllegalArgumentException> ARGUMENT = IllegalArgumentException.class;
    private static final Class<IllegalStateException> STATE = IllegalStateException.class;
    private static final Class<UnsupportedOperationException> UNSUPPORTED = UnsupportedOperationException.class;

    public static void main(String[] args) {
        effect();
        changes();
        changesWrongly();
        changesOverTheLimit();
        valuesAndControls();
        firstOrigins();
        lastOrigins();
        neverNull();
        neverTwice();
        users();
        affectedShare();
        meanValues();
        noSuchRelationOrColumn();
        Check.end();
    }

    private static void effect() {
        QueryLineage x = Fixture.catalogue();
        Check.same("a column on itself", x.effect(0, 1, 0, 1), 'v');
        Check.same("a column on another one", x.effect(0, 1, 0, 2), 'n');
        Check.same("a column of another table", x.effect(0, 1, 1, 1), 'n');
        Check.same("star", x.effect(0, 2, 2, 2), 'v');
        Check.same("pick", x.effect(0, 2, 3, 0), 'v');
        Check.same("pick", x.effect(0, 2, 3, 1), 'n');
        Check.same("filter", x.effect(0, 2, 4, 0), 'c');
        Check.same("filter", x.effect(0, 2, 4, 2), 'v');
        Check.same("filter", x.effect(0, 1, 4, 0), 'n');
        Check.same("control of a source", x.effect(0, 2, 5, 3), 'c');
        Check.same("first told column", x.effect(0, 1, 5, 3), 'c');
        Check.same("second told column", x.effect(1, 1, 5, 0), 'c');
        Check.same("column of the second source", x.effect(1, 2, 5, 5), 'v');
        Check.same("no control of the join", x.effect(1, 2, 5, 0), 'n');
        Check.same("union, first", x.effect(0, 1, 7, 1), 'v');
        Check.same("union, second", x.effect(1, 1, 7, 1), 'v');
        Check.same("group", x.effect(1, 1, 8, 0), 'v');
        Check.same("group on the sum", x.effect(1, 1, 8, 1), 'c');
        Check.same("sum", x.effect(1, 2, 8, 1), 'v');
        Check.same("sum on the group", x.effect(1, 2, 8, 0), 'n');
        Check.fails("no table", BOUNDS, () -> x.effect(9, 0, 0, 0));
        Check.fails("no relation", BOUNDS, () -> x.effect(2, 0, 9, 0));
        Check.fails("no column", BOUNDS, () -> x.effect(2, 3, 0, 0));
        Check.fails("no other column", BOUNDS, () -> x.effect(2, 0, 3, 2));
        Check.fails("a view", ARGUMENT, () -> x.effect(2, 0, 0, 0));
    }

    private static void changes() {
        QueryLineage x = Fixture.catalogue();
        String before = Fixture.shown(x, 0);
        Check.same("the column itself", x.changes(0, 0, 1, 11, 0, 1), true);
        Check.same("another column", x.changes(0, 0, 1, 11, 0, 2), false);
        Check.same("the number that it is", x.changes(0, 0, 1, 10, 0, 1), false);
        Check.same("star", x.changes(0, 1, 2, 5, 2, 2), true);
        Check.same("another number of rows of a filter", x.changes(0, 0, 2, 2, 4, 0), true);
        Check.same("as many rows of a filter", x.changes(0, 0, 2, 4, 4, 0), false);
        Check.same("nothing", x.changes(0, 0, 2, -1, 4, 0), true);
        Check.same("no match any more", x.changes(0, 0, 1, 11, 5, 3), true);
        Check.same("alone in an outer join", x.changes(0, 0, 1, 11, 6, 3), true);
        Check.same("first column of an outer join", x.changes(0, 0, 1, 11, 6, 0), false);
        Check.same("sum", x.changes(1, 0, 2, 4, 8, 1), true);
        Check.same("group", x.changes(1, 0, 2, 4, 8, 0), false);
        Check.same("key", x.changes(1, 0, 0, 99, 7, 0), true);
        Check.same("key as it is", x.changes(1, 0, 0, 1, 7, 0), false);
        Check.same("nothing was set", Fixture.shown(x, 0), before);
    }

    private static void changesWrongly() {
        QueryLineage x = Fixture.catalogue();
        Check.fails("no table", BOUNDS, () -> x.changes(9, 0, 0, 500, 0, 0));
        Check.fails("no relation", BOUNDS, () -> x.changes(2, 0, 0, 500, 9, 0));
        Check.fails("no row", BOUNDS, () -> x.changes(0, 2, 0, 500, 0, 0));
        Check.fails("no row -1", BOUNDS, () -> x.changes(0, -1, 0, 5, 0, 0));
        Check.fails("no column", BOUNDS, () -> x.changes(0, 0, 3, 500, 0, 0));
        Check.fails("no other column", BOUNDS, () -> x.changes(2, 0, 0, 500, 3, 2));
        Check.fails("a view, with any row", ARGUMENT, () -> x.changes(2, 70, 70, 5, 0, 0));
        Check.fails("100", ARGUMENT, () -> x.changes(0, 0, 1, 100, 0, 0));
        Check.fails("-2", ARGUMENT, () -> x.changes(0, 0, 2, -2, 0, 0));
        Check.fails("nothing as the key", ARGUMENT, () -> x.changes(0, 0, 0, -1, 0, 0));
        Check.fails("nothing where not nullable", ARGUMENT, () -> x.changes(0, 0, 1, -1, 0, 0));
        Check.fails("key of another row", UNSUPPORTED, () -> x.changes(0, 0, 0, 2, 0, 0));
    }

    private static void changesOverTheLimit() {
        QueryLineage x = Fixture.sixtyFourRows();
        x.pick(2, 0, 1, -1);
        x.union(3, 0);
        Check.fails("without it", STATE, () -> x.changes(0, 0, 1, 5, 4, 0));
        Check.fails("key comes first", UNSUPPORTED, () -> x.changes(0, 0, 0, 1, 4, 0));
        Check.fails("range comes first", ARGUMENT, () -> x.changes(0, 0, 1, 100, 4, 0));
        Check.same("another relation", x.changes(0, 0, 1, 5, 2, 0), true);
        x.set(0, 0, 1, 5);
        Check.same("27 rows and 1, and 4", x.rows(4), 32);
        Check.fails("with it", STATE, () -> x.changes(0, 0, 1, 0, 4, 0));
        Check.same("the number is as it was", x.cell(0, 0, 1), 5);
        Check.same("the rows are as they were", x.rows(4), 32);
    }

    private static void valuesAndControls() {
        QueryLineage x = Fixture.catalogue();
        Check.same("values of a table", x.values(0, 1), 1);
        Check.same("controls of a table", x.controls(0), 0);
        Check.same("controls of a star", x.controls(2), 0);
        Check.same("controls of a pick", x.controls(3), 0);
        Check.same("controls of a filter", x.controls(4), 1);
        Check.same("controls of a join", x.controls(5), 3);
        Check.same("values of a join", x.values(5, 5), 1);
        Check.same("controls of a union", x.controls(7), 1);
        Check.same("values of a union", x.values(7, 0), 2);
        Check.same("controls of a sum", x.controls(8), 3);
        Check.same("values of a sum", x.values(8, 1), 2);
        x.union(7, 7);
        Check.same("each counted once", x.values(9, 0), 2);
        Check.same("each control counted once", x.controls(9), 1);
    }

    private static void firstOrigins() {
        QueryLineage x = Fixture.catalogue();
        Check.same("table of a table", x.firstTable(1, 2), 1);
        Check.same("column of a table", x.firstColumn(1, 2), 2);
        Check.same("table over a join", x.firstTable(5, 4), 1);
        Check.same("column over a join", x.firstColumn(5, 4), 1);
        Check.same("table over a union", x.firstTable(7, 2), 0);
        Check.same("column over a union", x.firstColumn(7, 2), 2);
        x.union(1, 2);
        Check.same("lower table behind", x.firstTable(9, 1), 0);
        QueryLineage y = new QueryLineage();
        y.addTable();
        y.addTable();
        y.addColumn(0, false);
        y.pick(0, 1, 0, -1);
        y.pick(0, 0, 1, -1);
        y.union(2, 3);
        Check.same("lower column of one table", y.firstColumn(4, 0), 0);
        Check.same("values from one table", y.values(4, 0), 2);
        y.addColumn(1, false);
        y.pick(1, 0, 1, -1);
        y.pick(0, 1, 1, -1);
        y.union(5, 6);
        Check.same("tables go before columns", y.firstTable(7, 0), 0);
        Check.same("tables go before columns", y.firstColumn(7, 0), 1);
    }

    private static void lastOrigins() {
        QueryLineage x = new QueryLineage();
        for (int table = 0; table < 9; table++) {
            x.addTable();
        }
        for (int column = 1; column < 5; column++) {
            x.addColumn(8, true);
        }
        x.filter(8, 4, 0);
        Check.same("last table", x.firstTable(9, 4), 8);
        Check.same("last column", x.firstColumn(9, 4), 4);
        Check.same("effect of the last column", x.effect(8, 4, 9, 0), 'c');
        Check.same("effect of a column far ahead", x.effect(1, 0, 9, 0), 'n');
    }

    private static void neverNull() {
        QueryLineage x = Fixture.catalogue();
        Check.same("key", x.isNeverNull(0, 0), true);
        Check.same("not nullable", x.isNeverNull(0, 1), true);
        Check.same("nullable", x.isNeverNull(0, 2), false);
        Check.same("star", x.isNeverNull(2, 2), false);
        Check.same("star of a key", x.isNeverNull(2, 0), true);
        Check.same("pick", x.isNeverNull(3, 0), false);
        Check.same("pick of a key", x.isNeverNull(3, 1), true);
        Check.same("told column of a filter", x.isNeverNull(4, 2), true);
        Check.same("first source of a join", x.isNeverNull(5, 0), true);
        Check.same("second source of a join", x.isNeverNull(5, 3), true);
        Check.same("nullable column of the second source", x.isNeverNull(5, 5), false);
        Check.same("first source of an outer join", x.isNeverNull(6, 2), true);
        Check.same("second source of an outer join", x.isNeverNull(6, 3), false);
        Check.same("told column of an outer join", x.isNeverNull(6, 4), false);
        Check.same("union of both", x.isNeverNull(7, 0), true);
        Check.same("union of one", x.isNeverNull(7, 2), false);
        Check.same("group", x.isNeverNull(8, 0), true);
        Check.same("sum", x.isNeverNull(8, 1), false);
        QueryLineage y = new QueryLineage();
        Fixture.table(y);
        y.join(0, 0, 2, 2, false);
        y.join(0, 0, 2, 2, true);
        y.sum(0, 2, 1);
        Check.same("first told column of a join", y.isNeverNull(1, 2), true);
        Check.same("second told column of a join", y.isNeverNull(1, 5), true);
        Check.same("first told column of an outer join", y.isNeverNull(2, 2), false);
        Check.same("second told column of an outer join", y.isNeverNull(2, 5), false);
        Check.same("nullable group", y.isNeverNull(3, 0), false);
        Check.same("sum of a column that is not nullable", y.isNeverNull(3, 1), true);
    }

    private static void neverTwice() {
        QueryLineage x = Fixture.catalogue();
        Check.same("key", x.isNeverTwice(0, 0), true);
        Check.same("no key", x.isNeverTwice(0, 1), false);
        Check.same("star", x.isNeverTwice(2, 0), true);
        Check.same("pick", x.isNeverTwice(3, 1), true);
        Check.same("pick of no key", x.isNeverTwice(3, 0), false);
        Check.same("filter", x.isNeverTwice(4, 0), true);
        Check.same("join on no keys", x.isNeverTwice(5, 0), false);
        Check.same("union", x.isNeverTwice(7, 0), false);
        Check.same("group", x.isNeverTwice(8, 0), true);
        Check.same("sum", x.isNeverTwice(8, 1), false);
        QueryLineage y = new QueryLineage();
        Fixture.table(y);
        y.join(0, 0, 1, 0, false);
        Check.same("the other told column is a key", y.isNeverTwice(1, 0), true);
        Check.same("the other told column is no key", y.isNeverTwice(1, 3), false);
        y.join(0, 0, 0, 0, true);
        Check.same("outer join on keys, first", y.isNeverTwice(2, 0), true);
        Check.same("outer join on keys, second", y.isNeverTwice(2, 3), true);
        Check.same("outer join on keys, no key", y.isNeverTwice(2, 4), false);
        y.join(0, 0, 0, 1, false);
        Check.same("first, the other is no key", y.isNeverTwice(3, 0), false);
        Check.same("second, the other is a key", y.isNeverTwice(3, 3), true);
    }

    private static void users() {
        QueryLineage x = Fixture.catalogue();
        Check.same("directly or over others", x.users(0), 7);
        Check.same("of the second source", x.users(1), 4);
        Check.same("of a star", x.users(2), 0);
        Check.same("of a filter", x.users(4), 4);
        Check.same("of a union", x.users(7), 1);
        Check.same("of the last one", x.users(8), 0);
        x.addTable();
        Check.same("tables are none", x.users(0), 7);
    }

    private static void affectedShare() {
        QueryLineage x = new QueryLineage();
        Fixture.table(x);
        Check.fails("no views", ArithmeticException.class, () -> x.affectedShare(0, 0));
        Check.fails("no column, and no views", BOUNDS, () -> x.affectedShare(0, 3));
        x.star(0);
        Check.same("one of three", x.affectedShare(0, 1), 1f / 3f);
        x.filter(0, 1, 0);
        Check.same("four of six", x.affectedShare(0, 1), 4f / 6f);
        x.sum(0, 2, 0);
        Check.same("values alone", x.affectedShare(0, 0), 3f / 8f);
        x.addTable();
        Check.same("no effect", x.affectedShare(4, 0), 0f);
        Check.fails("no relation", BOUNDS, () -> x.affectedShare(5, 0));
        Check.fails("no column of a view", BOUNDS, () -> x.affectedShare(1, 3));
        Check.fails("a view", ARGUMENT, () -> x.affectedShare(1, 0));
    }

    private static void meanValues() {
        QueryLineage x = Fixture.catalogue();
        Check.same("of a table", x.meanValues(0), 1.0);
        Check.same("of a union", x.meanValues(7), 2.0);
        QueryLineage y = new QueryLineage();
        y.addTable();
        y.addColumn(0, true);
        y.pick(0, 0, 1, 0);
        y.pick(0, 0, 0, 0);
        y.union(1, 2);
        Check.same("of unlike columns", y.meanValues(3), 4.0 / 3.0);
        Check.fails("no relation", BOUNDS, () -> y.meanValues(4));
    }

    private static void noSuchRelationOrColumn() {
        QueryLineage x = Fixture.catalogue();
        for (int relation : new int[] {-1, 9, Integer.MIN_VALUE, Integer.MAX_VALUE}) {
            Check.fails("values", BOUNDS, () -> x.values(relation, 0));
            Check.fails("controls", BOUNDS, () -> x.controls(relation));
            Check.fails("firstTable", BOUNDS, () -> x.firstTable(relation, 0));
            Check.fails("firstColumn", BOUNDS, () -> x.firstColumn(relation, 0));
            Check.fails("isNeverNull", BOUNDS, () -> x.isNeverNull(relation, 0));
            Check.fails("isNeverTwice", BOUNDS, () -> x.isNeverTwice(relation, 0));
            Check.fails("users", BOUNDS, () -> x.users(relation));
        }
        for (int column : new int[] {-1, 2, Integer.MIN_VALUE, Integer.MAX_VALUE}) {
            Check.fails("values", BOUNDS, () -> x.values(3, column));
            Check.fails("firstTable", BOUNDS, () -> x.firstTable(3, column));
            Check.fails("firstColumn", BOUNDS, () -> x.firstColumn(3, column));
            Check.fails("isNeverNull", BOUNDS, () -> x.isNeverNull(3, column));
            Check.fails("isNeverTwice", BOUNDS, () -> x.isNeverTwice(3, column));
        }
    }
}
