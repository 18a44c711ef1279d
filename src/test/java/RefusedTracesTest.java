/** Promises 18 to 28: each exception, the first one of two, and that a refused call changes nothing. */
public final class RefusedTracesTest {
    private static final int[] NO_RELATIONS = Refused.outside(9);

    public static void main(String[] args) {
        effectWithoutColumn();
        effectOfView();
        changesWithoutRelation();
        changesWithoutCell();
        changesOfView();
        changesOutOfRange();
        changesToKeyOfAnotherRow();
        changesWithoutTooManyRows();
        changesWithTooManyRows();
        noRelation();
        noColumn();
        affectedShare();
        affectedShareWithoutViews();
        Check.end();
    }

    private static void refused(String what, Class<? extends RuntimeException> due, Refused.Asked asked) {
        Refused.call(what, Fixture::catalogue, due, asked);
    }

    private static void refusedOver64(String what, Class<? extends RuntimeException> due, Refused.Asked asked) {
        Refused.call(what, Fixture::sixtyFiveRows, due, asked);
    }

    /** Relations 0, 3 and 5 have 3, 2 and 6 columns. */
    private static void effectWithoutColumn() {
        for (int relation : NO_RELATIONS) {
            refused("18: no table " + relation, Refused.BOUNDS, x -> x.effect(relation, 0, 0, 0));
            refused("18: no relation " + relation, Refused.BOUNDS, x -> x.effect(0, 0, relation, 0));
            refused("18: view on no relation " + relation, Refused.BOUNDS, x -> x.effect(2, 0, relation, 0));
        }
        for (int column : Refused.outside(3)) {
            refused("18: no column " + column, Refused.BOUNDS, x -> x.effect(0, column, 5, 0));
            refused("18: no column " + column + " of a view", Refused.BOUNDS, x -> x.effect(2, column, 5, 0));
        }
        for (int column : Refused.outside(2)) {
            refused("18: no other column " + column, Refused.BOUNDS, x -> x.effect(0, 0, 3, column));
            refused("18: view on no other column " + column, Refused.BOUNDS, x -> x.effect(2, 0, 3, column));
            refused("18: no column " + column + " of a pick", Refused.BOUNDS, x -> x.effect(3, column, 0, 0));
        }
        for (int column : Refused.outside(6)) {
            refused("18: no other column " + column + " of a join", Refused.BOUNDS, x -> x.effect(0, 0, 5, column));
        }
    }

    private static void effectOfView() {
        for (int view = 2; view < 9; view++) {
            int asked = view;
            refused("18: view " + view, Refused.ARGUMENT, x -> x.effect(asked, 0, 8, 1));
            refused("18: view on itself " + view, Refused.ARGUMENT, x -> x.effect(asked, 1, asked, 1));
        }
        refused("18: last column of a view, which no table has", Refused.ARGUMENT, x -> x.effect(5, 5, 0, 0));
    }

    private static void changesWithoutRelation() {
        for (int relation : NO_RELATIONS) {
            for (int value : new int[] {5, 100}) {
                refused("19: no table " + relation, Refused.BOUNDS, x -> x.changes(relation, 0, 1, value, 0, 0));
                refused("19: no relation " + relation, Refused.BOUNDS, x -> x.changes(0, 0, 1, value, relation, 0));
                refused("19: view, no relation " + relation, Refused.BOUNDS,
                    x -> x.changes(2, 0, 1, value, relation, 0));
            }
            refused("19: key of another row, no relation " + relation, Refused.BOUNDS,
                x -> x.changes(0, 0, 0, 2, relation, 0));
        }
    }

    /** Tables 0 and 1 have 2 rows and 3 columns, pick 3 has 2 columns. */
    private static void changesWithoutCell() {
        for (int value : new int[] {5, -2, 100}) {
            for (int row : Refused.outside(2)) {
                refused("19: no row " + row, Refused.BOUNDS, x -> x.changes(0, row, 1, value, 8, 0));
            }
            for (int column : Refused.outside(3)) {
                refused("19: no column " + column, Refused.BOUNDS, x -> x.changes(1, 0, column, value, 8, 0));
            }
            for (int other : Refused.outside(2)) {
                refused("19: no other column " + other, Refused.BOUNDS, x -> x.changes(0, 0, 1, value, 3, other));
                refused("19: view, no other column " + other, Refused.BOUNDS,
                    x -> x.changes(2, 0, 1, value, 3, other));
            }
        }
        refused("19: no row, and the key of another one", Refused.BOUNDS, x -> x.changes(0, 2, 0, 1, 0, 0));
        refused("19: no other column, and the key of another row", Refused.BOUNDS, x -> x.changes(0, 0, 0, 2, 0, 3));
        refusedOver64("19: no row, 65 rows", Refused.BOUNDS, x -> x.changes(0, 4, 1, 5, 5, 0));
        refusedOver64("19: no column, 65 rows", Refused.BOUNDS, x -> x.changes(0, 0, 2, 5, 5, 0));
        refusedOver64("19: no other column, 65 rows", Refused.BOUNDS, x -> x.changes(0, 0, 1, 5, 5, 1));
        refusedOver64("19: no relation, beside 65 rows", Refused.BOUNDS, x -> x.changes(0, 0, 1, 5, 8, 0));
    }

    private static void changesOfView() {
        for (int view = 2; view < 9; view++) {
            int asked = view;
            refused("19: view " + view, Refused.ARGUMENT, x -> x.changes(asked, 0, 0, 50, 8, 0));
            refused("19: no row of view " + view, Refused.ARGUMENT, x -> x.changes(asked, -1, 0, 50, 8, 0));
            refused("19: no column of view " + view, Refused.ARGUMENT, x -> x.changes(asked, 0, 9, 50, 8, 0));
        }
        refused("19: key of another row in a view", Refused.ARGUMENT, x -> x.changes(2, 0, 0, 2, 0, 0));
        refusedOver64("19: view, 65 rows", Refused.ARGUMENT, x -> x.changes(1, 0, 0, 5, 5, 0));
        refusedOver64("19: view of 65 rows itself", Refused.ARGUMENT, x -> x.changes(5, 0, 0, 5, 5, 0));
    }

    private static void changesOutOfRange() {
        for (int value : Refused.outsideOrNone(100)) {
            for (int column = 0; column < 3; column++) {
                int asked = column;
                refused("19: " + value + " in column " + column, Refused.ARGUMENT,
                    x -> x.changes(0, 0, asked, value, 8, 0));
            }
            refusedOver64("19: " + value + ", 65 rows", Refused.ARGUMENT, x -> x.changes(0, 0, 1, value, 5, 0));
        }
        refused("19: nothing as the key", Refused.ARGUMENT, x -> x.changes(0, 0, 0, -1, 0, 0));
        refused("19: nothing in a column that is not nullable", Refused.ARGUMENT,
            x -> x.changes(0, 1, 1, -1, 0, 0));
        refusedOver64("19: nothing, 65 rows", Refused.ARGUMENT, x -> x.changes(0, 0, 1, -1, 5, 0));
    }

    private static void changesToKeyOfAnotherRow() {
        refused("19: key of a later row", Refused.UNSUPPORTED, x -> x.changes(0, 0, 0, 2, 0, 0));
        refused("19: key of an earlier row", Refused.UNSUPPORTED, x -> x.changes(1, 1, 0, 1, 0, 0));
        refused("19: key of another row, another relation", Refused.UNSUPPORTED, x -> x.changes(1, 1, 0, 1, 3, 1));
        refusedOver64("19: key of another row, 65 rows", Refused.UNSUPPORTED, x -> x.changes(0, 0, 0, 3, 5, 0));
    }

    private static void changesWithoutTooManyRows() {
        for (int view = 5; view < 8; view++) {
            int asked = view;
            refusedOver64("19: 65 rows, 29 with it, " + view, Refused.STATE, x -> x.changes(0, 0, 1, 5, asked, 0));
            refusedOver64("19: 65 rows, as before, " + view, Refused.STATE, x -> x.changes(0, 0, 1, 0, asked, 0));
            refusedOver64("19: 65 rows, of a table beside them, " + view, Refused.STATE,
                x -> x.changes(3, 0, 0, 0, asked, 0));
        }
    }

    /** Three rows with the same number and one with another one make 28 of 64 rows, and so 29 of 65. */
    private static QueryLineage twentyNineRows() {
        QueryLineage x = Fixture.sixtyFiveRows();
        x.set(0, 2, 1, 7);
        return x;
    }

    private static void changesWithTooManyRows() {
        Check.same("19: rows without it", twentyNineRows().rows(5), 29);
        for (int view = 5; view < 8; view++) {
            int asked = view;
            Refused.call("19: 65 rows with it, " + view, RefusedTracesTest::twentyNineRows, Refused.STATE,
                x -> x.changes(0, 2, 1, 0, asked, 0));
        }
        Refused.call("19: key of another row, 29 rows", RefusedTracesTest::twentyNineRows, Refused.UNSUPPORTED,
            x -> x.changes(0, 2, 0, 0, 5, 0));
    }

    private static void noRelation() {
        for (int relation : NO_RELATIONS) {
            refused("20: no relation " + relation, Refused.BOUNDS, x -> x.values(relation, 0));
            refused("21: no relation " + relation, Refused.BOUNDS, x -> x.controls(relation));
            refused("22: no relation " + relation, Refused.BOUNDS, x -> x.firstTable(relation, 0));
            refused("23: no relation " + relation, Refused.BOUNDS, x -> x.firstColumn(relation, 0));
            refused("24: no relation " + relation, Refused.BOUNDS, x -> x.isNeverNull(relation, 0));
            refused("25: no relation " + relation, Refused.BOUNDS, x -> x.isNeverTwice(relation, 0));
            refused("26: no relation " + relation, Refused.BOUNDS, x -> x.users(relation));
            refused("28: no relation " + relation, Refused.BOUNDS, x -> x.meanValues(relation));
        }
        for (int relation : Refused.outside(10)) {
            Refused.call("26: no relation " + relation + ", full", Fixture::fullCatalogue, Refused.BOUNDS,
                x -> x.users(relation));
            Refused.call("28: no relation " + relation + ", full", Fixture::fullCatalogue, Refused.BOUNDS,
                x -> x.meanValues(relation));
        }
    }

    private static void noColumn() {
        for (int relation : new int[] {0, 3, 5}) {
            int columns = Fixture.catalogue().columns(relation);
            for (int column : Refused.outside(columns)) {
                String what = "no column " + column + " of " + relation;
                refused("20: " + what, Refused.BOUNDS, x -> x.values(relation, column));
                refused("22: " + what, Refused.BOUNDS, x -> x.firstTable(relation, column));
                refused("23: " + what, Refused.BOUNDS, x -> x.firstColumn(relation, column));
                refused("24: " + what, Refused.BOUNDS, x -> x.isNeverNull(relation, column));
                refused("25: " + what, Refused.BOUNDS, x -> x.isNeverTwice(relation, column));
            }
        }
    }

    private static void affectedShare() {
        for (int table : NO_RELATIONS) {
            refused("27: no relation " + table, Refused.BOUNDS, x -> x.affectedShare(table, 0));
        }
        for (int column : Refused.outside(3)) {
            refused("27: no column " + column, Refused.BOUNDS, x -> x.affectedShare(0, column));
            refused("27: no column " + column + " of a view", Refused.BOUNDS, x -> x.affectedShare(2, column));
        }
        for (int view = 2; view < 9; view++) {
            int asked = view;
            refused("27: view " + view, Refused.ARGUMENT, x -> x.affectedShare(asked, 0));
        }
        refused("27: last column of a view", Refused.ARGUMENT, x -> x.affectedShare(5, 5));
    }

    private static void affectedShareWithoutViews() {
        Refused.Maker tables = () -> Fixture.twoTables(5, 1);
        Refused.call("27: no views", tables, ArithmeticException.class, x -> x.affectedShare(0, 0));
        Refused.call("27: no views, last column", tables, ArithmeticException.class, x -> x.affectedShare(0, 4));
        Refused.call("27: no views, last table", tables, ArithmeticException.class, x -> x.affectedShare(1, 0));
        for (int table : Refused.outside(2)) {
            Refused.call("27: no views and no relation", tables, Refused.BOUNDS, x -> x.affectedShare(table, 0));
        }
        for (int column : Refused.outside(1)) {
            Refused.call("27: no views and no column", tables, Refused.BOUNDS, x -> x.affectedShare(1, column));
        }
    }
}
