/** Promises 1 to 5: a new object, and tables. */
public final class TablesTest {
    private static final Class<IndexOutOfBoundsException> BOUNDS = IndexOutOfBoundsException.class;
    private static final Class<IllegalArgumentException> ARGUMENT = IllegalArgumentException.class;
    private static final Class<IllegalStateException> STATE = IllegalStateException.class;
    private static final Class<UnsupportedOperationException> UNSUPPORTED = UnsupportedOperationException.class;

    public static void main(String[] args) {
        newObject();
        addTable();
        addColumn();
        addColumnToExistingRows();
        addColumnUnderViews();
        addRow();
        set();
        setWrongly();
        Check.end();
    }

    private static void newObject() {
        QueryLineage x = new QueryLineage();
        Check.same("relations of a new object", x.relations(), 0);
        Check.fails("columns of none", BOUNDS, () -> x.columns(0));
        QueryLineage y = new QueryLineage();
        y.addTable();
        Check.same("objects do not share relations", x.relations(), 0);
    }

    private static void addTable() {
        QueryLineage x = new QueryLineage();
        for (int table = 0; table < 10; table++) {
            Check.same("addTable", x.addTable(), table);
        }
        Check.fails("an eleventh table", STATE, x::addTable);
        Check.same("relations", x.relations(), 10);
        Check.same("columns of a new table", x.columns(9), 1);
        Check.same("rows of a new table", x.rows(9), 0);
    }

    private static void addColumn() {
        QueryLineage x = new QueryLineage();
        x.addTable();
        x.star(0);
        Check.fails("addColumn(-1)", BOUNDS, () -> x.addColumn(-1, true));
        Check.fails("addColumn(2)", BOUNDS, () -> x.addColumn(2, true));
        Check.fails("addColumn to a view", ARGUMENT, () -> x.addColumn(1, true));
        Check.same("first further column", x.addColumn(0, true), 2);
        Check.same("second further column", x.addColumn(0, false), 3);
        Check.same("third further column", x.addColumn(0, true), 4);
        Check.same("fourth further column", x.addColumn(0, false), 5);
        Check.fails("fifth further column", STATE, () -> x.addColumn(0, false));
        Check.same("columns after the refused one", x.columns(0), 5);
    }

    private static void addColumnToExistingRows() {
        QueryLineage x = new QueryLineage();
        x.addTable();
        x.addRow(0);
        x.addRow(0);
        x.addColumn(0, false);
        x.addColumn(0, true);
        for (int row = 0; row < 2; row++) {
            Check.same("key stays", x.cell(0, row, 0), row);
            Check.same("0 in a column that is not nullable", x.cell(0, row, 1), 0);
            Check.same("nothing in a nullable column", x.cell(0, row, 2), -1);
        }
    }

    private static void addColumnUnderViews() {
        QueryLineage tooWide = Fixture.twoTables(4, 1);
        tooWide.join(0, 1, 0, 0, false);
        tooWide.star(2);
        Check.same("2nd source of a join grows", tooWide.addColumn(1, true), 2);
        tooWide.addColumn(1, true);
        tooWide.addColumn(1, true);
        Check.same("columns of the join", tooWide.columns(3), 8);
        Check.fails("a join of 9 columns", UNSUPPORTED, () -> tooWide.addColumn(1, true));
        Check.same("columns of the refusing star", tooWide.columns(3), 8);
        Check.same("columns of the refused table", tooWide.columns(1), 4);
        Check.fails("first source of a join", UNSUPPORTED, () -> tooWide.addColumn(0, true));

        QueryLineage full = Fixture.twoTables(5, 1);
        full.join(0, 1, 0, 0, false);
        Check.fails("4 columns come before views", STATE, () -> full.addColumn(0, true));

        QueryLineage united = Fixture.twoTables(1, 1);
        united.union(0, 1);
        Check.fails("one source of a union", UNSUPPORTED, () -> united.addColumn(0, true));
        QueryLineage doubled = new QueryLineage();
        doubled.addTable();
        doubled.star(0);
        doubled.union(0, 1);
        doubled.union(2, 2);
        doubled.filter(3, 0, 5);
        doubled.pick(4, 0, -1, -1);
        doubled.sum(4, 0, 0);
        Check.same("both sources of unions", doubled.addColumn(0, true), 2);
        Check.same("columns of the filter", doubled.columns(4), 2);
        Check.same("columns of the pick", doubled.columns(5), 1);
        Check.same("columns of the sum", doubled.columns(6), 2);
        Check.same("values of the new column", doubled.values(4, 1), 1);
        Check.same("table of the new column", doubled.firstColumn(4, 1), 1);

        QueryLineage picked = new QueryLineage();
        picked.addTable();
        picked.pick(0, 0, -1, -1);
        picked.join(1, 0, 0, 0, false);
        Check.same("a pick ahead of a join does not grow", picked.addColumn(0, false), 2);
        Check.same("columns of the join", picked.columns(2), 3);
        picked.sum(0, 0, 1);
        picked.join(3, 0, 0, 0, false);
        Check.same("a sum ahead of a join does not grow", picked.addColumn(0, false), 3);
        Check.same("columns of the join behind it", picked.columns(4), 5);
    }

    private static void addRow() {
        QueryLineage x = new QueryLineage();
        x.addTable();
        x.addColumn(0, true);
        x.addColumn(0, false);
        x.star(0);
        Check.fails("addRow(-1)", BOUNDS, () -> x.addRow(-1));
        Check.fails("addRow(2)", BOUNDS, () -> x.addRow(2));
        Check.fails("addRow to a view", ARGUMENT, () -> x.addRow(1));
        Check.same("row 0", x.addRow(0), 0);
        x.set(0, 0, 0, 1);
        Check.same("row 1", x.addRow(0), 1);
        Check.same("row 2", x.addRow(0), 2);
        Check.same("row 3", x.addRow(0), 3);
        Check.same("lowest key", x.cell(0, 1, 0), 0);
        Check.same("key behind a set one", x.cell(0, 2, 0), 2);
        Check.same("key 3", x.cell(0, 3, 0), 3);
        Check.same("nothing if nullable", x.cell(0, 3, 1), -1);
        Check.same("0 if not nullable", x.cell(0, 3, 2), 0);
        Check.fails("a fifth row", STATE, () -> x.addRow(0));
        Check.same("rows", x.rows(1), 4);
    }

    private static void set() {
        QueryLineage x = tableOfTwoRows();
        Check.same("set returns 0", x.set(0, 0, 1, 99), 0);
        Check.same("set returns 99", x.set(0, 0, 1, 0), 99);
        Check.same("set returns nothing", x.set(0, 1, 2, 7), -1);
        Check.same("set to nothing", x.set(0, 1, 2, -1), 7);
        Check.same("nothing", x.cell(0, 1, 2), -1);
        Check.same("key", x.set(0, 0, 0, 99), 0);
        Check.same("key as it was", x.set(0, 0, 0, 99), 99);
        Check.same("key that came free", x.set(0, 1, 0, 0), 1);
    }

    private static void setWrongly() {
        QueryLineage x = tableOfTwoRows();
        x.star(0);
        Check.fails("no relation -1", BOUNDS, () -> x.set(-1, 0, 0, 500));
        Check.fails("no relation 2", BOUNDS, () -> x.set(2, 0, 0, 500));
        Check.fails("no row 2", BOUNDS, () -> x.set(0, 2, 0, 500));
        Check.fails("no row -1", BOUNDS, () -> x.set(0, -1, 0, 5));
        Check.fails("no column 3", BOUNDS, () -> x.set(0, 0, 3, 500));
        Check.fails("no column -1", BOUNDS, () -> x.set(0, 0, -1, 5));
        Check.fails("a view, with any row", ARGUMENT, () -> x.set(1, 50, 50, 5));
        Check.fails("100", ARGUMENT, () -> x.set(0, 0, 1, 100));
        Check.fails("-2", ARGUMENT, () -> x.set(0, 0, 2, -2));
        Check.fails("nothing as the key", ARGUMENT, () -> x.set(0, 0, 0, -1));
        Check.fails("nothing where not nullable", ARGUMENT, () -> x.set(0, 0, 1, -1));
        Check.fails("key of another row", UNSUPPORTED, () -> x.set(0, 0, 0, 1));
        Check.same("no key was set", x.cell(0, 0, 0), 0);
    }

    /** The key, a column that is not nullable, and one that is. */
    private static QueryLineage tableOfTwoRows() {
        QueryLineage x = new QueryLineage();
        x.addTable();
        x.addColumn(0, false);
        x.addColumn(0, true);
        x.addRow(0);
        x.addRow(0);
        return x;
    }
}
