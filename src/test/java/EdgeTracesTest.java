/** Promises 18 to 28: the outermost tables, columns, numbers and shares. */
public final class EdgeTracesTest {
    public static void main(String[] args) {
        effectOfLastTable();
        effectOfValueAndControl();
        effectOverViews();
        changesOfOutermostCells();
        changesToOutermostNumbers();
        changesOfRowsAlone();
        changesOfRowsOfNothing();
        changesOfLastOf64Rows();
        changesAtTheLimit();
        changesOfNothingAnd0();
        changesThatDoNotShow();
        changesNothing();
        values();
        controls();
        firstOrigins();
        neverNullInJoins();
        neverNullInOthers();
        neverTwiceInJoins();
        neverTwiceInUnlikeSources();
        neverTwiceWhereNeverNull();
        neverTwiceInOthers();
        users();
        affectedShare();
        affectedShareOfLaterColumns();
        meanValues();
        Check.end();
    }

    /** Ten tables; the last one has five columns. */
    private static QueryLineage tenTables() {
        QueryLineage x = new QueryLineage();
        for (int table = 0; table < 10; table++) {
            x.addTable();
        }
        for (int column = 1; column < 5; column++) {
            x.addColumn(9, true);
        }
        return x;
    }

    private static void effectOfLastTable() {
        QueryLineage x = tenTables();
        for (int column = 0; column < 5; column++) {
            for (int other = 0; other < 5; other++) {
                Check.same("18: column of the tenth table", x.effect(9, column, 9, other),
                    column == other ? 'v' : 'n');
            }
            Check.same("18: on another table", x.effect(9, column, 0, 0), 'n');
            Check.same("20: values of the tenth table", x.values(9, column), 1);
            Check.same("22: tenth table", x.firstTable(9, column), 9);
            Check.same("23: column of the tenth table", x.firstColumn(9, column), column);
        }
        for (int table = 0; table < 9; table++) {
            Check.same("18: key of another table", x.effect(table, 0, 9, 0), 'n');
            Check.same("18: key on itself", x.effect(table, 0, table, 0), 'v');
            Check.same("22: its table", x.firstTable(table, 0), table);
        }
    }

    /** A column that a relation has values from has the effect 'v', whether it is a control or not. */
    private static void effectOfValueAndControl() {
        QueryLineage x = Fixture.twoTables(3, 3);
        x.filter(0, 1, 0);
        x.join(0, 1, 1, 2, false);
        x.sum(0, 2, 2);
        Check.same("18: told column of a filter", x.effect(0, 1, 2, 1), 'v');
        Check.same("18: on the column ahead of it", x.effect(0, 1, 2, 0), 'c');
        Check.same("18: on the column behind it", x.effect(0, 1, 2, 2), 'c');
        Check.same("18: first told column of a join", x.effect(0, 1, 3, 1), 'v');
        Check.same("18: second told column of a join", x.effect(1, 2, 3, 5), 'v');
        Check.same("18: first told column on the second one", x.effect(0, 1, 3, 5), 'c');
        Check.same("18: second told column on the first one", x.effect(1, 2, 3, 1), 'c');
        Check.same("18: group", x.effect(0, 2, 4, 0), 'v');
        Check.same("18: group that is summed", x.effect(0, 2, 4, 1), 'v');
        Check.same("18: neither", x.effect(0, 0, 4, 1), 'n');
    }

    /** The controls of a source stay when the column that made them is not shown any more. */
    private static void effectOverViews() {
        QueryLineage x = Fixture.twoTables(3, 1);
        x.filter(0, 2, 50);
        x.pick(2, 1, -1, -1);
        x.star(3);
        x.union(1, 4);
        x.join(5, 1, 0, 0, true);
        x.sum(6, 0, 1);
        Check.same("18: over a pick", x.effect(0, 2, 3, 0), 'c');
        Check.same("18: over a star", x.effect(0, 2, 4, 0), 'c');
        Check.same("18: over the second source of a union", x.effect(0, 2, 5, 0), 'c');
        Check.same("18: over a join", x.effect(0, 2, 6, 1), 'c');
        Check.same("18: over a sum", x.effect(0, 2, 7, 1), 'c');
        Check.same("18: a column that is not picked", x.effect(0, 0, 7, 0), 'n');
        Check.same("18: value over all of them", x.effect(0, 1, 7, 0), 'v');
        Check.same("18: from the other source", x.effect(1, 0, 7, 0), 'v');
    }

    private static void changesOfOutermostCells() {
        QueryLineage x = Fixture.fullTable();
        x.star(0);
        for (int cell = 0; cell < 20; cell++) {
            int row = cell / 5;
            int column = cell % 5;
            Check.same("19: cell " + cell, x.changes(0, row, column, 99, 2, column), true);
            Check.same("19: cell " + cell + " on the next column", x.changes(0, row, column, 99, 2, (column + 1) % 5),
                false);
        }
    }

    private static void changesToOutermostNumbers() {
        QueryLineage x = new QueryLineage();
        Fixture.table(x, new int[] {50, 50, 50}, new int[] {51, 50, -1});
        for (int column = 0; column < 3; column++) {
            Check.same("19: 0", x.changes(0, 0, column, 0, 0, column), true);
            Check.same("19: 99", x.changes(0, 0, column, 99, 0, column), true);
            Check.same("19: the same number", x.changes(0, 0, column, 50, 0, column), false);
        }
        Check.same("19: nothing", x.changes(0, 0, 2, -1, 0, 2), true);
        Check.same("19: nothing again", x.changes(0, 1, 2, -1, 0, 2), false);
        Check.same("19: a number for nothing", x.changes(0, 1, 2, 0, 0, 2), true);
        Check.same("19: number of another row", x.changes(0, 1, 2, 50, 0, 2), true);
    }

    /** Rows 0 and 1 show the same; whether there is a third one is all that changes. */
    private static void changesOfRowsAlone() {
        QueryLineage x = new QueryLineage();
        Fixture.table(x, new int[] {0, 5, 60}, new int[] {1, 5, 60}, new int[] {2, 5, 40});
        x.filter(0, 2, 50);
        x.pick(1, 1, -1, -1);
        Check.same("19: one row more", x.changes(0, 2, 2, 50, 2, 0), true);
        Check.same("19: as many rows", x.changes(0, 2, 2, 49, 2, 0), false);
        Check.same("19: as many rows, with other numbers of another column", x.changes(0, 1, 2, 50, 2, 0), false);
        Check.same("19: one row less", x.changes(0, 1, 2, 49, 2, 0), true);
        Check.same("19: one row less, of nothing", x.changes(0, 0, 2, -1, 2, 0), true);
        x.set(0, 0, 2, 0);
        Check.same("19: no row left", x.changes(0, 1, 2, 0, 2, 0), true);
        x.set(0, 1, 2, 0);
        Check.same("19: the first row", x.changes(0, 1, 2, 99, 2, 0), true);
        Check.same("19: no row as before", x.changes(0, 1, 2, 1, 2, 0), false);
    }

    /** The row that comes or goes shows nothing in the column. */
    private static void changesOfRowsOfNothing() {
        QueryLineage x = new QueryLineage();
        Fixture.table(x, new int[] {0, 5, 1}, new int[] {1, 5, -1});
        x.filter(0, 1, 5);
        Check.same("19: one row of nothing less", x.changes(0, 1, 1, 4, 1, 2), true);
        x.set(0, 1, 1, 4);
        Check.same("19: one row of nothing more", x.changes(0, 1, 1, 5, 1, 2), true);
        x.set(0, 0, 2, -1);
        Check.same("19: the only row, of nothing", x.changes(0, 0, 1, 4, 1, 2), true);
        Check.same("19: as many rows of nothing", x.changes(0, 0, 0, 99, 1, 2), false);
    }

    /** Unions of 8, 16, 32, 48, 56 and 60 rows, and one of 64, whose last four rows are those of table 1. */
    private static void changesOfLastOf64Rows() {
        QueryLineage x = new QueryLineage();
        x.addTable();
        x.addTable();
        for (int row = 0; row < 4; row++) {
            x.addRow(0);
            x.addRow(1);
        }
        x.union(0, 0);
        x.union(2, 2);
        x.union(3, 3);
        x.union(4, 3);
        x.union(5, 2);
        x.union(6, 0);
        x.union(7, 1);
        Check.same("14: rows", x.rows(8), 64);
        for (int row = 0; row < 4; row++) {
            Check.same("19: row " + (60 + row) + " alone", x.changes(1, row, 0, 99, 8, 0), true);
            Check.same("19: as it is", x.changes(1, row, 0, row, 8, 0), false);
            Check.same("19: not among the 60", x.changes(1, row, 0, 99, 7, 0), false);
        }
        Check.same("19: row 0 and others", x.changes(0, 0, 0, 99, 8, 0), true);
    }

    private static void changesAtTheLimit() {
        QueryLineage x = Fixture.sixtyFourRows();
        Check.same("19: 64 rows, 28 with it", x.changes(0, 0, 1, 5, 2, 0), true);
        Check.same("19: 64 rows, 64 with it", x.changes(0, 0, 1, 0, 2, 0), false);
        Check.same("19: 64 rows, another key", x.changes(0, 0, 0, 9, 2, 4), true);
        x.set(0, 0, 1, 5);
        Check.same("19: 28 rows, 64 with it", x.changes(0, 0, 1, 0, 2, 0), true);
        Check.same("19: 28 rows, 28 with it", x.changes(0, 0, 1, 6, 2, 0), false);
        Check.same("14: 28 rows", x.rows(2), 28);
        QueryLineage y = Fixture.sixtyFiveRows();
        Check.same("19: beside 65 rows", y.changes(0, 0, 1, 5, 4, 0), true);
        Check.same("19: a table ahead of 65 rows", y.changes(3, 0, 0, 5, 3, 0), true);
        Check.same("19: beside 65 rows, unaffected", y.changes(3, 0, 0, 5, 4, 0), false);
    }

    private static void changesOfNothingAnd0() {
        QueryLineage x = new QueryLineage();
        Fixture.table(x, new int[] {0, 5, -1}, new int[] {1, 5, 7}, new int[] {2, 6, -1});
        x.sum(0, 1, 2);
        Check.same("19: 0 beside a number", x.changes(0, 0, 2, 0, 1, 1), false);
        Check.same("19: 0 for nothing alone", x.changes(0, 2, 2, 0, 1, 1), true);
        Check.same("19: nothing for the only number", x.changes(0, 1, 2, -1, 1, 1), true);
        Check.same("19: 0 for the only number", x.changes(0, 1, 2, 0, 1, 1), true);
        Check.same("19: on the group", x.changes(0, 1, 2, 0, 1, 0), false);
        x.sum(0, 2, 1);
        Check.same("19: nothing and 0 are two groups", x.changes(0, 0, 2, 0, 2, 0), true);
        Check.same("19: group of nothing, last one left", x.changes(0, 1, 2, -1, 2, 0), true);
    }

    /** Effects that are 'v' or 'c' without a change. */
    private static void changesThatDoNotShow() {
        QueryLineage x = new QueryLineage();
        Fixture.table(x, new int[] {0, 5, 30}, new int[] {1, 6, 20});
        Fixture.table(x, new int[] {5, 8, -1}, new int[] {6, 8, 9});
        x.join(0, 1, 1, 0, false);
        x.sum(0, 1, 2);
        x.set(0, 1, 1, 5);
        Check.same("19: effect of a told column", x.effect(0, 1, 2, 4), 'c');
        Check.same("19: another row that shows the same", x.changes(0, 0, 1, 6, 2, 4), false);
        Check.same("19: another row that shows another number", x.changes(0, 0, 1, 6, 2, 5), true);
        Check.same("19: effect of a number below a group", x.effect(0, 2, 3, 0), 'n');
        Check.same("19: no effect, no change", x.changes(0, 0, 2, 99, 3, 0), false);
        Check.same("19: two groups for one", x.changes(0, 0, 1, 6, 3, 0), true);
        Check.same("19: another table", x.changes(1, 0, 0, 99, 3, 1), false);
        Check.same("19: a table that is not the one", x.changes(0, 0, 0, 99, 1, 0), false);
    }

    private static void changesNothing() {
        for (int relation = 0; relation < 9; relation++) {
            QueryLineage x = Fixture.catalogue();
            for (int column = 0; column < 3; column++) {
                x.changes(0, 0, column, 99, 8, 1);
                x.changes(1, 1, column, 0, 5, 0);
            }
            x.changes(0, 1, 2, 5, 6, 5);
            x.changes(0, 0, 2, -1, 7, 2);
            Check.same("19: sets nothing, " + relation, Snapshot.of(x, relation),
                Snapshot.of(Fixture.catalogue(), relation));
        }
    }

    private static void values() {
        QueryLineage x = new QueryLineage();
        for (int table = 0; table < 5; table++) {
            x.addTable();
        }
        x.union(0, 1);
        x.union(5, 2);
        x.union(4, 3);
        x.union(6, 7);
        x.union(8, 8);
        int[] due = {1, 1, 1, 1, 1, 2, 3, 2, 5, 5};
        for (int relation = 0; relation < 10; relation++) {
            Check.same("20: values of " + relation, x.values(relation, 0), due[relation]);
        }
        QueryLineage y = Fixture.twoTables(5, 1);
        y.pick(0, 0, 1, 2);
        y.pick(0, 3, 4, 0);
        y.union(2, 3);
        y.pick(4, 2, 0, 1);
        y.union(4, 5);
        Check.same("20: two columns of a table", y.values(4, 0), 2);
        Check.same("20: one that both sources have, counted once", y.values(6, 0), 3);
        Check.same("20: four columns of a table", y.values(6, 1), 4);
        y.pick(4, 2, 2, 2);
        y.union(7, 7);
        Check.same("20: two columns, each from both sources", y.values(8, 1), 2);
        y.union(0, 0);
        Check.same("20: a union of a table with itself", y.values(9, 4), 1);
    }

    private static void controls() {
        QueryLineage x = Fixture.twoTables(5, 1);
        Check.same("21: controls of a full table", x.controls(0), 0);
        for (int column = 0; column < 5; column++) {
            x.filter(column == 0 ? 0 : column + 1, column, 0);
            Check.same("21: one more", x.controls(column + 2), column + 1);
        }
        x.filter(6, 4, 99);
        Check.same("21: the same one again", x.controls(7), 5);
        x.join(7, 1, 0, 0, true);
        Check.same("21: a new one and an old one", x.controls(8), 6);
        x.sum(8, 5, 0);
        Check.same("21: the group is one already", x.controls(9), 6);

        QueryLineage y = Fixture.twoTables(1, 1);
        y.union(0, 1);
        y.filter(2, 0, 0);
        y.sum(2, 0, 0);
        y.join(0, 0, 0, 0, false);
        y.join(0, 1, 0, 0, true);
        Check.same("21: a union has none", y.controls(2), 0);
        Check.same("21: all from which the told column has its values", y.controls(3), 2);
        Check.same("21: all from which the group has its values", y.controls(4), 2);
        Check.same("21: a join with itself", y.controls(5), 1);
        Check.same("21: both told columns", y.controls(6), 2);
    }

    private static void firstOrigins() {
        QueryLineage x = Fixture.twoTables(5, 5);
        x.pick(1, 0, 4, -1);
        x.pick(0, 4, 4, -1);
        x.union(2, 3);
        x.union(3, 2);
        for (int union = 4; union < 6; union++) {
            Check.same("22: the lower table, for a higher column", x.firstTable(union, 0), 0);
            Check.same("23: its column", x.firstColumn(union, 0), 4);
            Check.same("23: the same column of both", x.firstColumn(union, 1), 4);
        }
        x.pick(1, 4, 3, -1);
        x.union(2, 6);
        Check.same("22: the second table alone", x.firstTable(7, 0), 1);
        Check.same("23: its lowest column, from the first source", x.firstColumn(7, 0), 0);
        Check.same("23: its lowest column, from the second source", x.firstColumn(7, 1), 3);
    }

    /** A key, a column that is not nullable and one that is, on both sides, told in all ways. */
    private static void neverNullInJoins() {
        for (int told = 0; told < 9; told++) {
            int first = told / 3;
            int second = told % 3;
            QueryLineage x = new QueryLineage();
            Fixture.table(x);
            x.join(0, 0, first, second, false);
            x.join(0, 0, first, second, true);
            for (int column = 0; column < 3; column++) {
                String what = "24: " + column + " in a join on " + first + " and " + second;
                Check.same(what + ", first", x.isNeverNull(1, column), column < 2 || column == first);
                Check.same(what + ", second", x.isNeverNull(1, column + 3), column < 2 || column == second);
                Check.same(what + ", first, outer", x.isNeverNull(2, column), column < 2);
                Check.same(what + ", second, outer", x.isNeverNull(2, column + 3), false);
            }
        }
    }

    private static void neverNullInOthers() {
        QueryLineage x = new QueryLineage();
        Fixture.table(x);
        for (int told = 0; told < 3; told++) {
            x.filter(0, told, 99);
            for (int column = 0; column < 3; column++) {
                Check.same("24: " + column + " in a filter of " + told, x.isNeverNull(told + 1, column),
                    column < 2 || column == told);
            }
        }
        x.union(0, 3);
        x.union(3, 0);
        x.union(3, 3);
        Check.same("24: second source alone", x.isNeverNull(4, 2), false);
        Check.same("24: first source alone", x.isNeverNull(5, 2), false);
        Check.same("24: both sources", x.isNeverNull(6, 2), true);
        x.sum(0, 2, 1);
        x.sum(0, 1, 2);
        Check.same("24: nullable group", x.isNeverNull(7, 0), false);
        Check.same("24: sum beside a nullable group", x.isNeverNull(7, 1), true);
        Check.same("24: group beside nullable numbers", x.isNeverNull(8, 0), true);
        Check.same("24: sum of nullable numbers", x.isNeverNull(8, 1), false);
        x.pick(3, 2, 1, 0);
        Check.same("24: pick of a told column", x.isNeverNull(9, 0), true);
    }

    /** A key and another column on both sides, told in all ways. */
    private static void neverTwiceInJoins() {
        for (int told = 0; told < 8; told++) {
            int first = told / 4;
            int second = told / 2 % 2;
            QueryLineage x = Fixture.twoTables(2, 2);
            x.join(0, 1, first, second, told % 2 == 0);
            String what = " in a join on " + first + " and " + second + (told % 2 == 0 ? ", outer" : "");
            Check.same("25: first key" + what, x.isNeverTwice(2, 0), second == 0);
            Check.same("25: first number" + what, x.isNeverTwice(2, 1), false);
            Check.same("25: second key" + what, x.isNeverTwice(2, 2), first == 0);
            Check.same("25: second number" + what, x.isNeverTwice(2, 3), false);
        }
    }

    /** The key stands first in the table, and last in the pick. */
    private static void neverTwiceInUnlikeSources() {
        for (int told = 0; told < 4; told++) {
            int first = told / 2;
            int second = told % 2;
            QueryLineage x = Fixture.twoTables(2, 2);
            x.pick(1, 1, 0, -1);
            x.join(0, 2, first, second, false);
            x.join(2, 0, first, second, true);
            String what = " in a join on " + first + " and " + second;
            Check.same("25: first key" + what, x.isNeverTwice(3, 0), second == 1);
            Check.same("25: first number" + what, x.isNeverTwice(3, 1), false);
            Check.same("25: second number" + what, x.isNeverTwice(3, 2), false);
            Check.same("25: second key" + what, x.isNeverTwice(3, 3), first == 0);
            Check.same("25: first number, outer" + what, x.isNeverTwice(4, 0), false);
            Check.same("25: first key, outer" + what, x.isNeverTwice(4, 1), second == 0);
            Check.same("25: second key, outer" + what, x.isNeverTwice(4, 2), first == 1);
            Check.same("25: second number, outer" + what, x.isNeverTwice(4, 3), false);
        }
    }

    /** A column that is never null can be twice the same, also when it is the told column of a filter. */
    private static void neverTwiceWhereNeverNull() {
        QueryLineage x = new QueryLineage();
        Fixture.table(x);
        x.star(0);
        x.pick(0, 1, 0, 2);
        x.filter(0, 0, 0);
        x.filter(0, 1, 0);
        x.filter(0, 2, 0);
        x.sum(0, 1, 1);
        for (int view : new int[] {0, 1, 3, 4, 5}) {
            Check.same("25: key of " + view, x.isNeverTwice(view, 0), true);
            Check.same("25: column that is not nullable of " + view, x.isNeverTwice(view, 1), false);
            Check.same("25: nullable column of " + view, x.isNeverTwice(view, 2), false);
        }
        Check.same("25: pick of a column that is not nullable", x.isNeverTwice(2, 0), false);
        Check.same("25: pick of the key", x.isNeverTwice(2, 1), true);
        Check.same("25: pick of a nullable column", x.isNeverTwice(2, 2), false);
        Check.same("25: group", x.isNeverTwice(6, 0), true);
        Check.same("25: sum of the group", x.isNeverTwice(6, 1), false);
    }

    private static void neverTwiceInOthers() {
        QueryLineage x = Fixture.twoTables(5, 1);
        for (int column = 0; column < 5; column++) {
            Check.same("25: column " + column + " of one row", x.isNeverTwice(0, column), column == 0);
        }
        x.union(0, 0);
        x.union(1, 1);
        Check.same("25: union of a key", x.isNeverTwice(3, 0), false);
        x.sum(2, 1, 0);
        Check.same("25: group of a column that is twice", x.isNeverTwice(4, 0), true);
        Check.same("25: sum of a column that is twice", x.isNeverTwice(4, 1), false);
        x.sum(0, 1, 0);
        Check.same("25: sum of a key", x.isNeverTwice(5, 1), false);
        x.sum(0, 0, 0);
        Check.same("25: the key in both columns", x.isNeverTwice(6, 1), false);
        x.pick(4, 1, 0, 0);
        Check.same("25: pick of a sum", x.isNeverTwice(7, 0), false);
        Check.same("25: pick of a group", x.isNeverTwice(7, 1), true);
        Check.same("25: pick of a group again", x.isNeverTwice(7, 2), true);
        x.filter(0, 1, 0);
        Check.same("25: filter, told column", x.isNeverTwice(8, 1), false);
        Check.same("25: filter, key", x.isNeverTwice(8, 0), true);
        x.join(4, 1, 0, 0, true);
        Check.same("25: group in a join with a key", x.isNeverTwice(9, 0), true);
    }

    private static void users() {
        QueryLineage chain = new QueryLineage();
        chain.addTable();
        Check.same("26: none yet", chain.users(0), 0);
        for (int view = 1; view < 10; view++) {
            chain.star(view - 1);
        }
        for (int relation = 0; relation < 10; relation++) {
            Check.same("26: in a chain", chain.users(relation), 9 - relation);
        }
        QueryLineage x = new QueryLineage();
        x.addTable();
        x.addTable();
        x.union(0, 0);
        x.star(0);
        x.union(2, 3);
        x.join(1, 4, 0, 0, false);
        int[] due = {4, 1, 2, 2, 1, 0};
        for (int relation = 0; relation < 6; relation++) {
            Check.same("26: each counted once, " + relation, x.users(relation), due[relation]);
        }
        for (int table = 0; table < 4; table++) {
            x.addTable();
        }
        Check.same("26: tables do not count", x.users(0), 4);
        Check.same("26: the last relation", x.users(9), 0);
    }

    private static void affectedShare() {
        QueryLineage x = Fixture.twoTables(3, 1);
        x.pick(0, 0, -1, -1);
        Check.same("27: all", x.affectedShare(0, 0), 1f);
        Check.same("27: none", x.affectedShare(0, 1), 0f);
        Check.same("27: none, of another table", x.affectedShare(1, 0), 0f);
        x.star(0);
        Check.same("27: two of four", x.affectedShare(0, 0), 0.5f);
        Check.same("27: one of four", x.affectedShare(0, 2), 0.25f);
        x.filter(0, 2, 99);
        Check.same("27: a control counts", x.affectedShare(0, 2), 4f / 7f);
        Check.same("27: no control does not", x.affectedShare(0, 1), 2f / 7f);
        x.union(4, 3);
        Check.same("27: value and control count once", x.affectedShare(0, 2), 7f / 10f);
        x.sum(5, 1, 0);
        Check.same("27: all but some", x.affectedShare(0, 2), 9f / 12f);
        Check.same("27: columns of tables do not count", x.affectedShare(1, 0), 0f / 12f);

        QueryLineage full = Fixture.twoTables(5, 3);
        for (int view = 2; view < 10; view++) {
            full.join(0, 1, 0, 0, false);
        }
        Check.same("27: 64 of 64", full.affectedShare(0, 0), 1f);
        Check.same("27: 8 of 64", full.affectedShare(1, 2), 0.125f);
    }

    private static void affectedShareOfLaterColumns() {
        QueryLineage x = new QueryLineage();
        x.addTable();
        x.star(0);
        for (int columns = 2; columns <= 5; columns++) {
            x.addColumn(0, true);
            Check.same("27: one of " + columns, x.affectedShare(0, columns - 1), 1f / columns);
        }
    }

    private static void meanValues() {
        QueryLineage x = Fixture.twoTables(5, 2);
        for (int relation = 0; relation < 2; relation++) {
            Check.same("28: of a table", x.meanValues(relation), 1.0);
        }
        x.pick(0, 0, 1, 2);
        x.pick(0, 0, 3, 4);
        x.union(2, 3);
        Check.same("28: 1, 2 and 2", x.meanValues(4), 5.0 / 3.0);
        x.pick(4, 1, 1, 0);
        x.union(4, 5);
        Check.same("28: 3, 2 and 3", x.meanValues(6), 8.0 / 3.0);
        x.pick(4, 0, -1, -1);
        Check.same("28: 1 of one column", x.meanValues(7), 1.0);
        x.join(6, 0, 0, 0, true);
        Check.same("28: 8 and 5 over 8 columns", x.meanValues(8), 13.0 / 8.0);
        x.star(8);
        Check.same("28: as its source", x.meanValues(9), 1.625);
    }
}
