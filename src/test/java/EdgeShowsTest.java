import java.util.NoSuchElementException;

/** Promises 12 to 17, and the limits: the outermost numbers of relations, columns and rows. */
public final class EdgeShowsTest {
    public static void main(String[] args) {
        relations();
        columns();
        rows();
        cellsOfFullTable();
        cellsOf64Rows();
        nulls();
        doubles();
        nothingOf64Rows();
        limitOfJoin();
        limitOfOuterJoin();
        limitOfUnion();
        limitOfSources();
        limitOfSourcesOfSources();
        limitLeavesOthers();
        limitReachedAgain();
        Check.end();
    }

    private static void relations() {
        QueryLineage x = new QueryLineage();
        Check.same("12: none", x.relations(), 0);
        x.addTable();
        Check.same("12: one", x.relations(), 1);
        for (int view = 1; view < 10; view++) {
            x.star(view - 1);
            Check.same("12: with views", x.relations(), view + 1);
        }
        Check.fails("6: eleventh", Refused.STATE, () -> x.star(9));
        Check.same("12: ten", x.relations(), 10);
    }

    private static void columns() {
        QueryLineage x = Fixture.fullCatalogue();
        int[] due = {3, 3, 3, 2, 3, 6, 6, 3, 2, 2};
        for (int relation = 0; relation < 10; relation++) {
            Check.same("13: columns of " + relation, x.columns(relation), due[relation]);
        }
        QueryLineage y = Fixture.twoTables(5, 3);
        y.join(0, 1, 0, 0, false);
        y.pick(2, 7, -1, -1);
        Check.same("13: columns of a full table", y.columns(0), 5);
        Check.same("13: columns of a full join", y.columns(2), 8);
        Check.same("13: column of a pick", y.columns(3), 1);
    }

    private static void rows() {
        QueryLineage x = Fixture.fullCatalogue();
        int[] due = {2, 2, 2, 2, 1, 1, 1, 3, 2, 2};
        for (int relation = 0; relation < 10; relation++) {
            Check.same("14: rows of " + relation, x.rows(relation), due[relation]);
        }
        QueryLineage y = Fixture.sixtyFourRows();
        Check.same("14: rows of a full table", y.rows(0), 4);
        Check.same("14: 64 rows", y.rows(2), 64);
    }

    private static void cellsOfFullTable() {
        QueryLineage x = Fixture.fullTable();
        x.star(0);
        for (int cell = 0; cell < 20; cell++) {
            x.set(0, cell / 5, cell % 5, 99 - cell);
        }
        for (int cell = 0; cell < 20; cell++) {
            Check.same("15: cell " + cell + " of a table", x.cell(0, cell / 5, cell % 5), 99 - cell);
            Check.same("15: cell " + cell + " of a star", x.cell(2, cell / 5, cell % 5), 99 - cell);
        }
        Check.fails("15: fifth row", NoSuchElementException.class, () -> x.cell(0, 4, 4));
        Check.fails("15: sixth column", Refused.BOUNDS, () -> x.cell(0, 3, 5));
    }

    /** The keys of the three sources count up as the digits of the row to the base of four. */
    private static void cellsOf64Rows() {
        QueryLineage x = Fixture.sixtyFourRows();
        for (int row = 0; row < 64; row++) {
            Check.same("15: first key in row " + row, x.cell(2, row, 0), row / 16);
            Check.same("15: second key in row " + row, x.cell(2, row, 2), row / 4 % 4);
            Check.same("15: third key in row " + row, x.cell(2, row, 4), row % 4);
            Check.same("15: last column in row " + row, x.cell(2, row, 5), 0);
        }
        Check.fails("15: row 64", NoSuchElementException.class, () -> x.cell(2, 64, 0));
    }

    private static void nulls() {
        QueryLineage x = new QueryLineage();
        x.addTable();
        x.addColumn(0, true);
        x.addColumn(0, false);
        x.star(0);
        for (int row = 0; row < 4; row++) {
            x.addRow(0);
            Check.same("16: all", x.nulls(0, 1), row + 1);
            Check.same("16: all of a star", x.nulls(1, 1), row + 1);
            Check.same("16: no 0", x.nulls(1, 2), 0);
        }
        for (int row = 0; row < 4; row++) {
            x.set(0, row, 1, 0);
            Check.same("16: without the first ones", x.nulls(1, 1), 3 - row);
        }
        x.set(0, 3, 1, -1);
        Check.same("16: the last one", x.nulls(1, 1), 1);
    }

    private static void doubles() {
        QueryLineage x = Fixture.keyed(new int[] {0, 7}, new int[] {1, -1}, new int[] {2, -1}, new int[] {3, 7});
        x.star(0);
        Check.same("17: first and last row", x.doubles(1, 1), 1);
        x.set(0, 1, 1, 7);
        Check.same("17: three rows", x.doubles(1, 1), 2);
        x.set(0, 2, 1, 7);
        Check.same("17: four rows", x.doubles(1, 1), 3);
        x.set(0, 0, 1, 0);
        x.set(0, 1, 1, 0);
        Check.same("17: twice two rows", x.doubles(0, 1), 2);
        for (int row = 0; row < 4; row++) {
            x.set(0, row, 1, -1);
        }
        Check.same("17: nothing is not the same as nothing", x.doubles(0, 1), 0);
        Check.same("17: one row", oneRow().doubles(0, 0), 0);
    }

    private static QueryLineage oneRow() {
        return Fixture.keyed(new int[] {0, 0});
    }

    private static void nothingOf64Rows() {
        QueryLineage x = new QueryLineage();
        Fixture.table(x, new int[] {0, 0, -1}, new int[] {1, 0, -1}, new int[] {2, 0, -1}, new int[] {3, 0, -1});
        x.pick(0, 1, 2, -1);
        x.join(1, 1, 0, 0, false);
        x.join(2, 1, 0, 0, false);
        Check.same("16: 64 times nothing", x.nulls(3, 5), 64);
        Check.same("16: nothing in no row", x.nulls(3, 4), 0);
        Check.same("17: 63 times the same", x.doubles(3, 4), 63);
        Check.same("17: nothing is not the same", x.doubles(3, 5), 0);
        x.set(0, 3, 2, 8);
        Check.same("16: 48 times nothing", x.nulls(3, 5), 48);
        Check.same("17: 15 times the same", x.doubles(3, 5), 15);
    }

    /** The join of 13 and 5 rows on a number that is 0 in all rows but that of table 1, which stands once in each. */
    private static QueryLineage thirteenAndFiveRows() {
        QueryLineage x = new QueryLineage();
        x.addTable();
        x.addTable();
        x.addColumn(0, true);
        x.addColumn(1, true);
        for (int row = 0; row < 4; row++) {
            x.addRow(0);
            x.set(0, row, 1, 0);
        }
        x.addRow(1);
        x.union(0, 1);
        x.union(0, 0);
        x.union(3, 2);
        x.join(4, 2, 1, 1, false);
        return x;
    }

    private static void limitOfJoin() {
        QueryLineage x = thirteenAndFiveRows();
        Check.same("14: 13 rows", x.rows(4), 13);
        Check.same("14: 12 rows with 4", x.rows(5), 48);
        x.set(1, 0, 1, 1);
        Check.same("14: and one with one", x.rows(5), 49);
        x.set(1, 0, 1, 0);
        Check.fails("14: 13 rows with 5", Refused.STATE, () -> x.rows(5));
        x.set(1, 0, 1, -1);
        Check.same("14: 48 rows again", x.rows(5), 48);
        Check.same("14: 64 rows of a join", Fixture.sixtyFourRows().rows(2), 64);
    }

    /** 16 rows meet 4 each; the 17th one is alone, or meets 4, too. */
    private static void limitOfOuterJoin() {
        QueryLineage x = Fixture.sixtyFourRows();
        x.pick(1, 1, -1, -1);
        x.addTable();
        x.union(3, 4);
        x.join(5, 0, 0, 1, true);
        x.join(5, 0, 0, 1, false);
        Check.same("14: 64 rows of an outer join", x.rows(6), 64);
        x.addRow(4);
        x.set(4, 0, 0, 9);
        Check.fails("14: 65 rows of an outer join", Refused.STATE, () -> x.rows(6));
        Check.fails("15: the 64 rows ahead of it", Refused.STATE, () -> x.cell(6, 0, 0));
        Check.same("14: 64 rows of the join", x.rows(7), 64);
        x.set(4, 0, 0, 0);
        Check.fails("14: 68 rows of the join", Refused.STATE, () -> x.rows(7));
    }

    private static void limitOfUnion() {
        QueryLineage x = Fixture.sixtyFiveRows();
        x.union(3, 4);
        x.union(4, 4);
        Check.fails("14: 64 rows and 1", Refused.STATE, () -> x.rows(5));
        Check.fails("14: 1 row and 64", Refused.STATE, () -> x.rows(8));
        Check.fails("14: 64 rows and 64", Refused.STATE, () -> x.rows(9));
        x.set(0, 0, 1, 5);
        Check.same("14: 28 rows and 1", x.rows(5), 29);
        Check.same("14: 28 rows twice", x.rows(9), 56);
        QueryLineage y = Fixture.sixtyFourRows();
        y.union(1, 1);
        y.union(3, 3);
        Check.same("14: 64 rows of a union", y.rows(4), 64);
        y.union(4, 1);
        Check.fails("14: 80 rows of a union", Refused.STATE, () -> y.rows(5));
    }

    /** Relation 5 has 65 rows; whatever is found from it cannot be asked for rows, however few it would have. */
    private static void limitOfSources() {
        for (int kind = 0; kind < 9; kind++) {
            QueryLineage x = Fixture.sixtyFiveRows();
            x.addTable();
            int view = viewOf(x, kind);
            Check.same("14: number of the view", view, 9);
            Check.fails("14: source of 65 rows, kind " + kind, Refused.STATE, () -> x.rows(9));
            Check.fails("15: source of 65 rows, kind " + kind, Refused.STATE, () -> x.cell(9, 0, 0));
            Check.fails("16: source of 65 rows, kind " + kind, Refused.STATE, () -> x.nulls(9, 0));
            Check.fails("17: source of 65 rows, kind " + kind, Refused.STATE, () -> x.doubles(9, 0));
        }
    }

    /** Adds a view of relation 5, and perhaps of table 8, which is empty. */
    private static int viewOf(QueryLineage x, int kind) {
        switch (kind) {
            case 0: return x.star(5);
            case 1: return x.pick(5, 0, -1, -1);
            case 2: return x.filter(5, 0, 99);
            case 3: return x.join(5, 8, 0, 0, false);
            case 4: return x.join(8, 5, 0, 0, false);
            case 5: return x.join(8, 5, 0, 0, true);
            case 6: return x.union(8, 5);
            case 7: return x.union(5, 8);
            default: return x.sum(5, 0, 0);
        }
    }

    private static void limitOfSourcesOfSources() {
        QueryLineage x = Fixture.sixtyFiveRows();
        x.star(6);
        x.sum(8, 0, 0);
        Check.fails("14: star of a filter of 65 rows", Refused.STATE, () -> x.rows(8));
        Check.fails("14: sum of a star of a filter of 65 rows", Refused.STATE, () -> x.rows(9));
        x.set(0, 0, 1, 5);
        Check.same("14: no rows any more", x.rows(9), 0);
    }

    private static void limitLeavesOthers() {
        QueryLineage x = Fixture.sixtyFiveRows();
        x.star(4);
        x.star(3);
        Check.fails("14: 65 rows", Refused.STATE, () -> x.rows(7));
        Check.same("14: sources of 65 rows", x.rows(4), 64);
        Check.same("14: star of one source", x.rows(8), 64);
        Check.same("14: star of the other source", x.rows(9), 1);
        Check.same("13: columns", x.columns(7), 2);
        Check.same("18: effect", x.effect(0, 1, 7, 1), 'v');
        Check.same("20: values", x.values(7, 1), 2);
        Check.same("21: controls", x.controls(7), 2);
        Check.same("24: isNeverNull", x.isNeverNull(7, 1), true);
        Check.same("25: isNeverTwice", x.isNeverTwice(7, 0), true);
        Check.same("26: users", x.users(5), 2);
        Check.same("28: meanValues", x.meanValues(7), 2.0);
    }

    private static void limitReachedAgain() {
        QueryLineage x = Fixture.sixtyFiveRows();
        for (int round = 0; round < 3; round++) {
            Check.fails("14: 65 rows", Refused.STATE, () -> x.rows(6));
            x.set(0, 3, 1, 99);
            Check.same("14: 29 rows", x.rows(5), 29);
            Check.same("14: one of 29 rows", x.rows(6), 1);
            Check.same("11: two groups", Fixture.shown(x, 7), "[[0, 0], [99, 99]]");
            x.set(0, 3, 1, 0);
        }
    }
}
