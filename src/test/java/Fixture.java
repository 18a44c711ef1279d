import java.util.ArrayList;
import java.util.List;

/** Tables and texts that several tests use. */
final class Fixture {
    private Fixture() {
    }

    /** Adds a table whose rows are told as key, number, nullable number. */
    static int table(QueryLineage x, int[]... rows) {
        int table = x.addTable();
        x.addColumn(table, false);
        x.addColumn(table, true);
        for (int i = 0; i < rows.length; i++) {
            x.addRow(table);
        }
        for (int row = 0; row < rows.length; row++) {
            x.set(table, row, 0, 90 + row);
        }
        for (int row = 0; row < rows.length; row++) {
            for (int column = 0; column < 3; column++) {
                x.set(table, row, column, rows[row][column]);
            }
        }
        return table;
    }

    /** The rows that a relation shows, each one a list. */
    static String shown(QueryLineage x, int relation) {
        List<List<Integer>> rows = new ArrayList<>();
        for (int row = 0; row < x.rows(relation); row++) {
            List<Integer> numbers = new ArrayList<>();
            for (int column = 0; column < x.columns(relation); column++) {
                numbers.add(x.cell(relation, row, column));
            }
            rows.add(numbers);
        }
        return rows.toString();
    }

    /** A table of four rows whose column 1 has 0 in all rows, and views 1 and 2 with 16 and 64 rows. */
    static QueryLineage sixtyFourRows() {
        QueryLineage x = new QueryLineage();
        x.addTable();
        x.addColumn(0, false);
        for (int row = 0; row < 4; row++) {
            x.addRow(0);
        }
        x.join(0, 0, 1, 1, false);
        x.join(1, 0, 1, 1, false);
        return x;
    }
}
