import java.util.NoSuchElementException;

/** Promises 12 to 17: what relations show. */
public final class ShowsTest {
    private static final Class<IndexOutOfBoundsException> BOUNDS = IndexOutOfBoundsException.class;
    private static final Class<IllegalStateException> STATE = IllegalStateException.class;
    private static final Class<NoSuchElementException> NONE = NoSuchElementException.class;

    public static void main(String[] args) {
        sizes();
        cells();
        nullsAndDoubles();
        limits();
        limitOfOneSource();
        limitsComeAndGo();
        largeSums();
        Check.end();
    }

    private static void sizes() {
        QueryLineage x = new QueryLineage();
        x.addTable();
        x.star(0);
        x.join(0, 1, 0, 0, true);
        x.sum(2, 1, 0);
        Check.same("relations", x.relations(), 4);
        Check.same("columns of a table", x.columns(0), 1);
        Check.same("columns of a star", x.columns(1), 1);
        Check.same("columns of a join", x.columns(2), 2);
        Check.same("columns of a sum", x.columns(3), 2);
        Check.same("rows without any", x.rows(3), 0);
        x.addRow(0);
        Check.same("rows of a sum", x.rows(3), 1);
        Check.fails("columns(-1)", BOUNDS, () -> x.columns(-1));
        Check.fails("columns(4)", BOUNDS, () -> x.columns(4));
        Check.fails("rows(-1)", BOUNDS, () -> x.rows(-1));
        Check.fails("rows(4)", BOUNDS, () -> x.rows(4));
    }

    private static void cells() {
        QueryLineage x = new QueryLineage();
        Fixture.table(x, new int[] {7, 1, -1});
        x.star(0);
        Check.same("a number", x.cell(1, 0, 0), 7);
        Check.same("nothing", x.cell(1, 0, 2), -1);
        Check.fails("no relation", BOUNDS, () -> x.cell(2, 5, 0));
        Check.fails("no column", BOUNDS, () -> x.cell(1, 5, 3));
        Check.fails("no column -1", BOUNDS, () -> x.cell(1, 0, -1));
        Check.fails("no row", NONE, () -> x.cell(1, 1, 0));
        Check.fails("no row -1", NONE, () -> x.cell(0, -1, 0));
        Check.fails("a row far off", NONE, () -> x.cell(1, Integer.MAX_VALUE, 0));
    }

    private static void nullsAndDoubles() {
        QueryLineage x = new QueryLineage();
        Fixture.table(x, new int[] {0, 4, -1}, new int[] {1, 4, 4}, new int[] {2, 4, -1}, new int[] {3, 5, 4});
        x.union(0, 0);
        Check.same("nulls", x.nulls(0, 2), 2);
        Check.same("no nulls", x.nulls(0, 0), 0);
        Check.same("nulls of a union", x.nulls(1, 2), 4);
        Check.same("doubles", x.doubles(0, 1), 2);
        Check.same("nothing is not the same as nothing", x.doubles(0, 2), 1);
        Check.same("no doubles", x.doubles(0, 0), 0);
        Check.same("doubles of a union", x.doubles(1, 0), 4);
        Check.fails("nulls of no relation", BOUNDS, () -> x.nulls(2, 0));
        Check.fails("nulls of no column", BOUNDS, () -> x.nulls(0, 3));
        Check.fails("doubles of no relation", BOUNDS, () -> x.doubles(-1, 0));
        Check.fails("doubles of no column", BOUNDS, () -> x.doubles(0, -1));
    }

    private static void limits() {
        QueryLineage x = Fixture.sixtyFourRows();
        x.addTable();
        x.addColumn(3, true);
        x.pick(2, 4, 5, -1);
        x.union(4, 3);
        x.sum(5, 1, 0);
        x.filter(5, 0, 99);
        x.star(0);
        Check.same("64 rows", x.rows(2), 64);
        Check.same("64 rows of a union", x.rows(5), 64);
        Check.same("last of 64 rows", x.cell(5, 63, 0), 3);
        x.addRow(3);
        Check.fails("65 rows", STATE, () -> x.rows(5));
        Check.fails("cell of 65 rows", STATE, () -> x.cell(5, -5, 0));
        Check.fails("nulls of 65 rows", STATE, () -> x.nulls(5, 0));
        Check.fails("doubles of 65 rows", STATE, () -> x.doubles(5, 0));
        Check.fails("a sum of 65 rows", STATE, () -> x.rows(6));
        Check.fails("a filter of 65 rows", STATE, () -> x.cell(7, 0, 0));
        Check.fails("no column comes first", BOUNDS, () -> x.cell(5, 0, 2));
        Check.fails("no column comes first", BOUNDS, () -> x.nulls(5, 2));
        Check.fails("no column comes first", BOUNDS, () -> x.doubles(5, 2));
        Check.same("columns can be asked for", x.columns(5), 2);
        Check.same("rows of a source", x.rows(4), 64);
        Check.same("rows of another relation", x.rows(8), 4);
    }

    /** Few rows do not help if one of the sources has too many. */
    private static void limitOfOneSource() {
        QueryLineage x = Fixture.sixtyFourRows();
        x.pick(2, 1, -1, -1);
        x.union(3, 3);
        x.addTable();
        x.join(5, 4, 0, 0, false);
        x.join(4, 5, 0, 0, false);
        x.addRow(5);
        x.set(5, 0, 0, 50);
        Check.fails("128 rows", STATE, () -> x.rows(4));
        Check.fails("second source", STATE, () -> x.rows(6));
        Check.fails("first source", STATE, () -> x.rows(7));
        x.set(0, 0, 1, 1);
        Check.same("56 rows", x.rows(4), 56);
        Check.same("no rows", x.rows(6), 0);
        Check.same("no rows", x.rows(7), 0);
    }

    private static void limitsComeAndGo() {
        QueryLineage x = Fixture.sixtyFourRows();
        x.join(2, 0, 1, 1, true);
        Check.fails("256 rows", STATE, () -> x.rows(3));
        for (int row = 0; row < 4; row++) {
            x.set(0, row, 1, row);
        }
        Check.same("4 rows", x.rows(3), 4);
        for (int row = 0; row < 4; row++) {
            x.set(0, row, 1, 9);
        }
        Check.fails("256 rows again", STATE, () -> x.rows(3));
    }

    /** The largest sum that ten relations allow. */
    private static void largeSums() {
        QueryLineage x = Fixture.sixtyFourRows();
        for (int row = 0; row < 4; row++) {
            x.set(0, row, 1, 99);
        }
        for (int view = 3; view < 9; view += 2) {
            x.sum(view - 1, view == 3 ? 1 : 0, 1);
            x.join(view, 2, 0, 1, false);
        }
        x.sum(8, 0, 1);
        Check.same("64 times 99", x.cell(3, 0, 1), 64 * 99);
        Check.same("a sum of sums of sums of sums", x.cell(9, 0, 1), 64 * 64 * 64 * 64 * 99);
    }
}
