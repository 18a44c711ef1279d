/** Promises 2 to 5: the outermost calls that are still allowed. */
public final class EdgeTablesTest {
    public static void main(String[] args) {
        tenthTable();
        fourFurtherColumns();
        columnOfEmptyAndFullTables();
        eighthColumn();
        columnOfBothSourcesOfUnion();
        columnBehindJoins();
        columnOfViewsThatStay();
        lowestKeys();
        numbersOfNewRow();
        rowsOfFullCatalogue();
        setEachCell();
        setKeys();
        setOutermostNumbers();
        Check.end();
    }

    private static void tenthTable() {
        QueryLineage x = Fixture.catalogue();
        Check.same("2: tenth relation", x.addTable(), 9);
        Check.same("2: relations", x.relations(), 10);
        Check.same("2: its key alone", x.columns(9), 1);
        Check.same("2: without rows", x.rows(9), 0);
        Check.same("2: the key is never null", x.isNeverNull(9, 0), true);
        Check.same("2: the key is never twice the same", x.isNeverTwice(9, 0), true);
        for (int count = 2; count <= 5; count++) {
            Check.same("3: column of the tenth relation", x.addColumn(9, true), count);
        }
        for (int row = 0; row < 4; row++) {
            Check.same("4: row of the tenth relation", x.addRow(9), row);
        }
        Check.same("5: last cell of the tenth relation", x.set(9, 3, 4, 99), -1);
        Check.same("5: last cell", x.cell(9, 3, 4), 99);
    }

    /** All ways in which four further columns are nullable or not. */
    private static void fourFurtherColumns() {
        for (int nullable = 0; nullable < 16; nullable++) {
            QueryLineage x = new QueryLineage();
            x.addTable();
            x.addRow(0);
            for (int column = 1; column < 5; column++) {
                boolean isNullable = (nullable >> column - 1 & 1) != 0;
                Check.same("3: columns", x.addColumn(0, isNullable), column + 1);
                Check.same("3: never null", x.isNeverNull(0, column), !isNullable);
                Check.same("3: in the row", x.cell(0, 0, column), isNullable ? -1 : 0);
            }
            x.addRow(0);
            for (int column = 1; column < 5; column++) {
                Check.same("4: as in the row before", x.cell(0, 1, column), x.cell(0, 0, column));
            }
        }
    }

    private static void columnOfEmptyAndFullTables() {
        for (int rows = 0; rows <= 4; rows++) {
            QueryLineage x = new QueryLineage();
            x.addTable();
            for (int row = 0; row < rows; row++) {
                x.addRow(0);
            }
            x.addColumn(0, false);
            x.addColumn(0, true);
            Check.same("3: no row more", x.rows(0), rows);
            Check.same("3: 0 is not nothing", x.nulls(0, 1), 0);
            Check.same("3: the same 0", x.doubles(0, 1), Math.max(0, rows - 1));
            Check.same("3: nothing", x.nulls(0, 2), rows);
            for (int row = 0; row < rows; row++) {
                Check.same("3: the key stays", x.cell(0, row, 0), row);
                Check.same("3: 0", x.cell(0, row, 1), 0);
            }
        }
    }

    private static void eighthColumn() {
        QueryLineage x = Fixture.twoTables(4, 3);
        x.star(1);
        x.union(1, 2);
        x.filter(3, 0, 0);
        x.join(0, 4, 0, 0, true);
        x.star(5);
        Check.same("3: columns of the table", x.addColumn(1, false), 4);
        Check.same("3: eighth column of a join", x.columns(5), 8);
        Check.same("3: eighth column of a star", x.columns(6), 8);
        Check.same("3: eighth column shown", x.cell(6, 0, 7), 0);
        Check.same("3: eighth column traced", x.firstColumn(6, 7), 3);

        QueryLineage y = Fixture.twoTables(3, 3);
        y.join(0, 1, 0, 0, false);
        y.pick(0, 0, -1, -1);
        y.join(3, 2, 0, 0, false);
        Check.same("3: column behind two joins", y.addColumn(1, true), 4);
        Check.same("3: seventh column of the first join", y.columns(2), 7);
        Check.same("3: eighth column of the second join", y.columns(4), 8);
    }

    private static void columnOfBothSourcesOfUnion() {
        QueryLineage x = Fixture.twoTables(2, 2);
        x.union(0, 0);
        x.star(0);
        x.filter(0, 0, 0);
        x.union(3, 4);
        x.union(2, 5);
        for (int count = 3; count <= 5; count++) {
            Check.same("3: all sources of the unions", x.addColumn(0, count == 4), count);
            Check.same("3: columns of the last union", x.columns(6), count);
        }
        Check.same("3: 0 in a union", x.cell(6, 3, 2), 0);
        Check.same("3: nothing in a union", x.cell(6, 3, 3), -1);

        QueryLineage joined = Fixture.twoTables(1, 1);
        joined.join(0, 1, 0, 0, false);
        joined.join(0, 1, 0, 0, true);
        joined.union(2, 3);
        Check.same("3: second source of both joins of a union", joined.addColumn(1, true), 2);
        Check.same("3: columns of the union", joined.columns(4), 3);
    }

    private static void columnBehindJoins() {
        QueryLineage x = Fixture.twoTables(1, 1);
        x.join(0, 1, 0, 0, false);
        x.join(0, 2, 0, 1, true);
        x.join(0, 3, 0, 2, false);
        Check.same("3: second source of three joins", x.addColumn(1, true), 2);
        Check.same("3: columns of the last join", x.columns(4), 5);
        Check.same("3: the told columns stay", Fixture.shown(x, 4), "[[0, 0, 0, 0, -1]]");
        Check.same("3: a table that no view uses", Fixture.twoTables(1, 1).addColumn(1, true), 2);

        QueryLineage picked = Fixture.twoTables(1, 1);
        picked.pick(1, 0, -1, -1);
        picked.join(0, 2, 0, 0, false);
        picked.union(0, 2);
        Check.same("3: a join and a union with a pick", picked.addColumn(1, true), 2);
        Check.same("3: the other table stays", picked.columns(0), 1);
    }

    /** Picks and sums have as many columns as before, and so do the views that are found from them. */
    private static void columnOfViewsThatStay() {
        QueryLineage x = Fixture.twoTables(2, 1);
        x.pick(0, 0, 1, -1);
        x.sum(0, 1, 0);
        x.union(2, 3);
        x.join(2, 3, 0, 0, false);
        x.join(4, 1, 0, 0, true);
        x.join(3, 0, 1, 0, false);
        Check.same("3: pick and sum", x.addColumn(0, true), 3);
        Check.same("3: columns of the pick", x.columns(2), 2);
        Check.same("3: columns of the sum", x.columns(3), 2);
        Check.same("3: columns of their union", x.columns(4), 2);
        Check.same("3: columns of their join", x.columns(5), 4);
        Check.same("3: columns of the join with the other table", x.columns(6), 3);
        Check.same("3: columns of the join with the table behind", x.columns(7), 5);
    }

    /** Every way in which up to three rows have keys out of some. */
    private static void lowestKeys() {
        int[] keys = {0, 1, 2, 3, 4, 98, 99};
        for (int chosen = 0; chosen < 1 << keys.length; chosen++) {
            if (Integer.bitCount(chosen) <= 3) {
                QueryLineage x = new QueryLineage();
                x.addTable();
                int rows = 0;
                for (int i = 0; i < keys.length; i++) {
                    if ((chosen >> i & 1) != 0) {
                        x.addRow(0);
                        x.set(0, rows, 0, keys[i]);
                        rows++;
                    }
                }
                Check.same("4: number of the row", x.addRow(0), rows);
                Check.same("4: lowest key beside " + chosen, x.cell(0, rows, 0),
                    Integer.numberOfTrailingZeros(~chosen));
            }
        }
    }

    private static void numbersOfNewRow() {
        QueryLineage x = new QueryLineage();
        Fixture.table(x, new int[] {0, 99, 99}, new int[] {1, 98, 98}, new int[] {2, 97, 97});
        x.addRow(0);
        Check.same("4: 0 and nothing in the fourth row", Fixture.shown(x, 0),
            "[[0, 99, 99], [1, 98, 98], [2, 97, 97], [3, 0, -1]]");
        QueryLineage y = new QueryLineage();
        Fixture.table(y, new int[] {3, 1, 1}, new int[] {2, 1, 1}, new int[] {1, 1, 1});
        y.addRow(0);
        Check.same("4: key 0", y.cell(0, 3, 0), 0);
    }

    private static void rowsOfFullCatalogue() {
        QueryLineage x = Fixture.fullCatalogue();
        Check.same("4: third row beside ten relations", x.addRow(0), 2);
        Check.same("4: fourth row beside ten relations", x.addRow(0), 3);
        Check.same("4: rows of the star", x.rows(2), 4);
    }

    /** All cells of a full table of four rows and five columns, with the outermost numbers. */
    private static void setEachCell() {
        for (int value : new int[] {99, 50, -1}) {
            QueryLineage x = Fixture.fullTable();
            for (int row = 0; row < 4; row++) {
                for (int column = 1; column < 5; column++) {
                    Check.same("5: nothing before", x.set(0, row, column, value), -1);
                    Check.same("5: number", x.cell(0, row, column), value);
                    Check.same("5: no other one", x.nulls(0, column), value == -1 ? 4 - row : 3 - row);
                    Check.same("5: number before", x.set(0, row, column, 0), value);
                    Check.same("5: 0", x.cell(0, row, column), 0);
                }
                Check.same("5: key before", x.set(0, row, 0, 99 - row), row);
                Check.same("5: key", x.cell(0, row, 0), 99 - row);
            }
        }
    }

    private static void setKeys() {
        QueryLineage x = Fixture.keyed(new int[] {0, 5}, new int[] {1, 99});
        Check.same("5: own key", x.set(0, 1, 0, 1), 1);
        Check.same("5: key that is a number of another column", x.set(0, 0, 0, 99), 0);
        Check.same("5: key that came free", x.set(0, 1, 0, 0), 1);
        Check.same("5: key that another table has", twoKeys().set(1, 0, 0, 7), 0);
        Check.same("5: number that another row has in the column", x.set(0, 0, 1, 99), 5);
        Check.same("5: number that is the key of another row", x.set(0, 0, 1, 0), 99);
        Check.same("5: number that is its own key", x.set(0, 0, 1, 99), 0);
    }

    private static QueryLineage twoKeys() {
        QueryLineage x = Fixture.twoTables(1, 1);
        x.set(0, 0, 0, 7);
        return x;
    }

    private static void setOutermostNumbers() {
        QueryLineage x = new QueryLineage();
        Fixture.table(x, new int[] {1, 1, 1});
        for (int column = 0; column < 3; column++) {
            Check.same("5: 0", x.set(0, 0, column, 0), 1);
            Check.same("5: 99", x.set(0, 0, column, 99), 0);
            Check.same("5: 98", x.set(0, 0, column, 98), 99);
        }
        Check.same("5: nothing if nullable", x.set(0, 0, 2, -1), 98);
        Check.same("5: nothing again", x.set(0, 0, 2, -1), -1);
        Check.same("5: shown", Fixture.shown(x, 0), "[[98, 98, -1]]");
    }
}
