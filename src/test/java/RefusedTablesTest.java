/** Promises 2 to 5: each exception, the first one of two, and that a refused call changes nothing. */
public final class RefusedTablesTest {
    public static void main(String[] args) {
        addTable();
        addColumn();
        addColumnToFullTable();
        addColumnToJoinOfEightColumns();
        addColumnBehindJoinOfEightColumns();
        addColumnToOneSourceOfUnion();
        addColumnToFirstSourceOfJoin();
        addRow();
        setWithoutCell();
        setView();
        setOutOfRange();
        setKeyOfAnotherRow();
        Check.end();
    }

    private static void addTable() {
        Refused.call("2: table beside ten relations", Fixture::fullCatalogue, Refused.STATE, x -> x.addTable());
        Refused.call("2: eleventh table", RefusedTablesTest::tenTables, Refused.STATE, x -> x.addTable());
    }

    private static QueryLineage tenTables() {
        QueryLineage x = new QueryLineage();
        for (int table = 0; table < 10; table++) {
            x.addTable();
        }
        return x;
    }

    private static void addColumn() {
        for (boolean isNullable : new boolean[] {false, true}) {
            for (int table : Refused.outside(9)) {
                Refused.call("3: no relation " + table, Fixture::catalogue, Refused.BOUNDS,
                    x -> x.addColumn(table, isNullable));
            }
            for (int view = 2; view < 9; view++) {
                int asked = view;
                Refused.call("3: view " + view, Fixture::catalogue, Refused.ARGUMENT,
                    x -> x.addColumn(asked, isNullable));
            }
        }
    }

    private static void addColumnToFullTable() {
        Refused.call("3: fifth further column", () -> Fixture.twoTables(5, 1), Refused.STATE,
            x -> x.addColumn(0, true));
        Refused.call("3: fifth further column, not nullable", () -> Fixture.twoTables(1, 5), Refused.STATE,
            x -> x.addColumn(1, false));
        Refused.call("3: view of a full table", () -> then(Fixture.twoTables(5, 1), x -> x.star(0)), Refused.ARGUMENT,
            x -> x.addColumn(2, true));
        Refused.call("3: full table ahead of a join", () -> then(Fixture.twoTables(5, 1),
            x -> x.join(0, 1, 0, 0, false)), Refused.STATE, x -> x.addColumn(0, true));
        Refused.call("3: full table behind a join of 8", () -> then(Fixture.twoTables(3, 5),
            x -> x.join(0, 1, 0, 0, false)), Refused.STATE, x -> x.addColumn(1, true));
        Refused.call("3: full table of a union", () -> then(Fixture.twoTables(5, 5), x -> x.union(0, 1)),
            Refused.STATE, x -> x.addColumn(1, true));
    }

    private static QueryLineage then(QueryLineage x, Refused.Asked asked) {
        asked.of(x);
        return x;
    }

    /** Tables of 4 columns each, and their join. */
    private static QueryLineage joinOfEight() {
        return then(Fixture.twoTables(4, 4), x -> x.join(0, 1, 0, 0, true));
    }

    private static void addColumnToJoinOfEightColumns() {
        Refused.call("3: ninth column", RefusedTablesTest::joinOfEight, Refused.UNSUPPORTED,
            x -> x.addColumn(1, true));
        Refused.call("3: ninth column, not nullable", RefusedTablesTest::joinOfEight, Refused.UNSUPPORTED,
            x -> x.addColumn(1, false));
        Refused.call("3: ninth column over a star", () -> {
            QueryLineage x = Fixture.twoTables(4, 4);
            x.star(1);
            x.join(0, 2, 0, 0, false);
            return x;
        }, Refused.UNSUPPORTED, x -> x.addColumn(1, true));
        Refused.call("3: ninth column over a filter and a union", () -> {
            QueryLineage x = Fixture.twoTables(4, 4);
            x.filter(1, 0, 0);
            x.union(1, 2);
            x.join(0, 3, 0, 0, false);
            return x;
        }, Refused.UNSUPPORTED, x -> x.addColumn(1, true));
    }

    /** The join of the table has 7 columns, but the join behind it, of one more column, has 8. */
    private static void addColumnBehindJoinOfEightColumns() {
        Refused.call("3: ninth column of a join of a join", () -> {
            QueryLineage x = Fixture.twoTables(3, 4);
            x.join(0, 1, 0, 0, false);
            x.pick(0, 0, -1, -1);
            x.join(3, 2, 0, 0, false);
            return x;
        }, Refused.UNSUPPORTED, x -> x.addColumn(1, true));
    }

    private static void addColumnToOneSourceOfUnion() {
        Refused.call("3: first source of a union", () -> then(Fixture.twoTables(2, 2), x -> x.union(0, 1)),
            Refused.UNSUPPORTED, x -> x.addColumn(0, true));
        Refused.call("3: second source of a union", () -> then(Fixture.twoTables(2, 2), x -> x.union(0, 1)),
            Refused.UNSUPPORTED, x -> x.addColumn(1, true));
        Refused.call("3: source of a source of a union", () -> {
            QueryLineage x = Fixture.twoTables(2, 2);
            x.star(1);
            x.filter(2, 0, 0);
            x.union(0, 3);
            return x;
        }, Refused.UNSUPPORTED, x -> x.addColumn(1, true));
        Refused.call("3: union with a pick of the same table", () -> {
            QueryLineage x = Fixture.twoTables(2, 2);
            x.pick(0, 0, 1, -1);
            x.union(0, 2);
            return x;
        }, Refused.UNSUPPORTED, x -> x.addColumn(0, true));
        Refused.call("3: union of a sum with the same table", () -> {
            QueryLineage x = Fixture.twoTables(2, 2);
            x.sum(0, 0, 1);
            x.union(2, 0);
            return x;
        }, Refused.UNSUPPORTED, x -> x.addColumn(0, true));
    }

    private static void addColumnToFirstSourceOfJoin() {
        Refused.call("3: first source of a join", () -> then(Fixture.twoTables(1, 1), x -> x.join(0, 1, 0, 0, false)),
            Refused.UNSUPPORTED, x -> x.addColumn(0, true));
        Refused.call("3: first source of an outer join", () -> then(Fixture.twoTables(1, 1),
            x -> x.join(0, 1, 0, 0, true)), Refused.UNSUPPORTED, x -> x.addColumn(0, false));
        Refused.call("3: both sources of a join", () -> then(Fixture.twoTables(1, 1), x -> x.join(0, 0, 0, 0, false)),
            Refused.UNSUPPORTED, x -> x.addColumn(0, true));
        Refused.call("3: both sources of a join, one over a star", () -> {
            QueryLineage x = Fixture.twoTables(1, 1);
            x.star(0);
            x.join(2, 0, 0, 0, false);
            return x;
        }, Refused.UNSUPPORTED, x -> x.addColumn(0, true));
        Refused.call("3: over a union and a filter", () -> {
            QueryLineage x = Fixture.twoTables(1, 1);
            x.union(0, 0);
            x.filter(2, 0, 0);
            x.join(3, 1, 0, 0, false);
            return x;
        }, Refused.UNSUPPORTED, x -> x.addColumn(0, true));
        Refused.call("3: over the second source of another join", () -> {
            QueryLineage x = Fixture.twoTables(1, 1);
            x.join(0, 1, 0, 0, false);
            x.join(2, 0, 0, 0, false);
            return x;
        }, Refused.UNSUPPORTED, x -> x.addColumn(1, true));
    }

    private static void addRow() {
        for (int table : Refused.outside(9)) {
            Refused.call("4: no relation " + table, Fixture::catalogue, Refused.BOUNDS, x -> x.addRow(table));
        }
        for (int view = 2; view < 9; view++) {
            int asked = view;
            Refused.call("4: view " + view, Fixture::catalogue, Refused.ARGUMENT, x -> x.addRow(asked));
        }
        Refused.call("4: fifth row", Fixture::sixtyFourRows, Refused.STATE, x -> x.addRow(0));
        Refused.call("4: view of four rows", () -> then(Fixture.sixtyFourRows(), x -> x.star(0)), Refused.ARGUMENT,
            x -> x.addRow(3));
        Refused.call("4: view of 64 rows", Fixture::sixtyFourRows, Refused.ARGUMENT, x -> x.addRow(2));
    }

    private static void setWithoutCell() {
        for (int value : new int[] {5, -2, 100}) {
            for (int table : Refused.outside(9)) {
                Refused.call("5: no relation " + table, Fixture::catalogue, Refused.BOUNDS,
                    x -> x.set(table, 0, 1, value));
            }
            for (int row : Refused.outside(2)) {
                Refused.call("5: no row " + row, Fixture::catalogue, Refused.BOUNDS, x -> x.set(0, row, 1, value));
            }
            for (int column : Refused.outside(3)) {
                Refused.call("5: no column " + column, Fixture::catalogue, Refused.BOUNDS,
                    x -> x.set(1, 1, column, value));
            }
        }
        Refused.call("5: no row 4", Fixture::sixtyFourRows, Refused.BOUNDS, x -> x.set(0, 4, 1, 5));
        Refused.call("5: no column 5", () -> Fixture.twoTables(5, 1), Refused.BOUNDS, x -> x.set(0, 0, 5, 5));
        Refused.call("5: no row, and the key of another one", Fixture::catalogue, Refused.BOUNDS,
            x -> x.set(0, 2, 0, 1));
    }

    private static void setView() {
        for (int view = 2; view < 9; view++) {
            int asked = view;
            Refused.call("5: view " + view, Fixture::catalogue, Refused.ARGUMENT, x -> x.set(asked, 0, 0, 50));
            Refused.call("5: no row of view " + view, Fixture::catalogue, Refused.ARGUMENT,
                x -> x.set(asked, -1, 0, 50));
            Refused.call("5: no column of view " + view, Fixture::catalogue, Refused.ARGUMENT,
                x -> x.set(asked, 0, 9, 50));
        }
        Refused.call("5: key of another row in a view", Fixture::catalogue, Refused.ARGUMENT, x -> x.set(2, 0, 0, 2));
        Refused.call("5: no number in a view", Fixture::catalogue, Refused.ARGUMENT, x -> x.set(2, 0, 0, 100));
    }

    private static void setOutOfRange() {
        for (int value : Refused.outsideOrNone(100)) {
            for (int column = 0; column < 3; column++) {
                int asked = column;
                Refused.call("5: " + value + " in column " + column, Fixture::catalogue, Refused.ARGUMENT,
                    x -> x.set(0, 0, asked, value));
            }
        }
        Refused.call("5: nothing as the key", Fixture::catalogue, Refused.ARGUMENT, x -> x.set(0, 0, 0, -1));
        Refused.call("5: nothing in a column that is not nullable", Fixture::catalogue, Refused.ARGUMENT,
            x -> x.set(0, 1, 1, -1));
    }

    private static void setKeyOfAnotherRow() {
        Refused.call("5: key of a later row", Fixture::catalogue, Refused.UNSUPPORTED, x -> x.set(0, 0, 0, 2));
        Refused.call("5: key of an earlier row", Fixture::catalogue, Refused.UNSUPPORTED, x -> x.set(1, 1, 0, 1));
        Refused.call("5: key of the first of four rows", Fixture::sixtyFourRows, Refused.UNSUPPORTED,
            x -> x.set(0, 3, 0, 0));
        Refused.call("5: key of the last of four rows", Fixture::sixtyFourRows, Refused.UNSUPPORTED,
            x -> x.set(0, 0, 0, 3));
    }
}
