import java.util.ArrayList;
import java.util.List;

/** Catalogues and texts that several tests use. */
final class Fixture {
    private Fixture() {
    }

    /** Adds a table whose rows are told as key, number, nullable number. */
    static int table(QueryLineage x, int[]... rows) {
        int table = x.addTable();
        x.addColumn(table, false);
        x.addColumn(table, true);
        for (int i = 0; i < rows.length; i++) {
            x.addRow(table);
        }
        for (int row = 0; row < rows.length; row++) {
            x.set(table, row, 0, 90 + row);
        }
        for (int row = 0; row < rows.length; row++) {
            for (int column = 0; column < 3; column++) {
                x.set(table, row, column, rows[row][column]);
            }
        }
        return table;
    }

    /** The rows that a relation shows, each one a list. */
    static String shown(QueryLineage x, int relation) {
        List<List<Integer>> rows = new ArrayList<>();
        for (int row = 0; row < x.rows(relation); row++) {
            List<Integer> numbers = new ArrayList<>();
            for (int column = 0; column < x.columns(relation); column++) {
                numbers.add(x.cell(relation, row, column));
            }
            rows.add(numbers);
        }
        return rows.toString();
    }

    /** A table of four rows whose column 1 has 0 in all rows, and views 1 and 2 with 16 and 64 rows. */
    static QueryLineage sixtyFourRows() {
        QueryLineage x = new QueryLineage();
        x.addTable();
        x.addColumn(0, false);
        for (int row = 0; row < 4; row++) {
            x.addRow(0);
        }
        x.join(0, 0, 1, 1, false);
        x.join(1, 0, 1, 1, false);
        return x;
    }

    /** Tables 0 and 1 with a key, a number and a nullable number and two rows each, and views of all kinds, 2 to 8. */
    static QueryLineage catalogue() {
        QueryLineage x = new QueryLineage();
        table(x, new int[] {1, 10, 3}, new int[] {2, 20, -1});
        table(x, new int[] {1, 10, 3}, new int[] {2, 30, -1});
        x.star(0);
        x.pick(0, 2, 0, -1);
        x.filter(0, 2, 3);
        x.join(4, 1, 1, 1, false);
        x.join(4, 1, 1, 1, true);
        x.union(4, 1);
        x.sum(7, 1, 2);
        return x;
    }

    /** The catalogue with a tenth relation. */
    static QueryLineage fullCatalogue() {
        QueryLineage x = catalogue();
        x.star(8);
        return x;
    }

    /** Two tables of that many columns, all further ones nullable, and of one row. */
    static QueryLineage twoTables(int firstColumns, int secondColumns) {
        QueryLineage x = new QueryLineage();
        x.addTable();
        x.addTable();
        for (int column = 1; column < firstColumns; column++) {
            x.addColumn(0, true);
        }
        for (int column = 1; column < secondColumns; column++) {
            x.addColumn(1, true);
        }
        x.addRow(0);
        x.addRow(1);
        return x;
    }

    /** A table of four rows and five columns, all further ones nullable and with nothing. */
    static QueryLineage fullTable() {
        QueryLineage x = twoTables(5, 1);
        for (int row = 1; row < 4; row++) {
            x.addRow(0);
        }
        return x;
    }

    /** Table 3 has one row, pick 4 has 64, union 5 of both has 65, from which filter 6 and sum 7 are found. */
    static QueryLineage sixtyFiveRows() {
        QueryLineage x = sixtyFourRows();
        x.addTable();
        x.addRow(3);
        x.pick(2, 5, -1, -1);
        x.union(4, 3);
        x.filter(5, 0, 99);
        x.sum(5, 0, 0);
        return x;
    }

    /** Key and nullable number in as many rows as there are keys, each one told as key, number. */
    static QueryLineage keyed(int[]... rows) {
        QueryLineage x = new QueryLineage();
        x.addTable();
        x.addColumn(0, true);
        for (int row = 0; row < rows.length; row++) {
            x.addRow(0);
            x.set(0, row, 0, rows[row][0]);
            x.set(0, row, 1, rows[row][1]);
        }
        return x;
    }
}
