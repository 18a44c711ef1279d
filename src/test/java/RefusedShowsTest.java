import java.util.NoSuchElementException;

/** Promises 13 to 17: each exception, the first one of two, and that a refused call changes nothing. */
public final class RefusedShowsTest {
    private static final Class<NoSuchElementException> NONE = NoSuchElementException.class;

    public static void main(String[] args) {
        noRelation();
        noColumn();
        noRow();
        moreThan64Rows();
        noColumnOfMoreThan64Rows();
        noRowOfMoreThan64Rows();
        Check.end();
    }

    private static void refused(String what, Class<? extends RuntimeException> due, Refused.Asked asked) {
        Refused.call(what, Fixture::catalogue, due, asked);
    }

    private static void refusedOver64(String what, Class<? extends RuntimeException> due, Refused.Asked asked) {
        Refused.call(what, Fixture::sixtyFiveRows, due, asked);
    }

    private static void noRelation() {
        for (int relation : Refused.outside(9)) {
            refused("13: no relation " + relation, Refused.BOUNDS, x -> x.columns(relation));
            refused("14: no relation " + relation, Refused.BOUNDS, x -> x.rows(relation));
            refused("15: no relation " + relation, Refused.BOUNDS, x -> x.cell(relation, 0, 0));
            refused("15: no relation " + relation + " and no row", Refused.BOUNDS, x -> x.cell(relation, -1, 0));
            refused("16: no relation " + relation, Refused.BOUNDS, x -> x.nulls(relation, 0));
            refused("17: no relation " + relation, Refused.BOUNDS, x -> x.doubles(relation, 0));
        }
        Refused.call("13: no eleventh relation", Fixture::fullCatalogue, Refused.BOUNDS, x -> x.columns(10));
        Refused.call("14: no eleventh relation", Fixture::fullCatalogue, Refused.BOUNDS, x -> x.rows(10));
        Refused.call("15: no eleventh relation", Fixture::fullCatalogue, Refused.BOUNDS, x -> x.cell(10, 0, 0));
        Refused.call("16: no eleventh relation", Fixture::fullCatalogue, Refused.BOUNDS, x -> x.nulls(10, 0));
        Refused.call("17: no eleventh relation", Fixture::fullCatalogue, Refused.BOUNDS, x -> x.doubles(10, 0));
    }

    /** Relations 0, 3 and 5 have 3, 2 and 6 columns. */
    private static void noColumn() {
        for (int relation : new int[] {0, 3, 5}) {
            int columns = Fixture.catalogue().columns(relation);
            for (int column : Refused.outside(columns)) {
                String what = "no column " + column + " of " + relation;
                refused("15: " + what, Refused.BOUNDS, x -> x.cell(relation, 0, column));
                refused("15: " + what + " and no row", Refused.BOUNDS, x -> x.cell(relation, 9, column));
                refused("16: " + what, Refused.BOUNDS, x -> x.nulls(relation, column));
                refused("17: " + what, Refused.BOUNDS, x -> x.doubles(relation, column));
            }
        }
    }

    /** Relation 0 has two rows, filter 4 one row, and table 0 of the others four. */
    private static void noRow() {
        for (int row : Refused.outside(2)) {
            refused("15: no row " + row + " of a table", NONE, x -> x.cell(0, row, 2));
            refused("15: no row " + row + " of a star", NONE, x -> x.cell(2, row, 2));
        }
        for (int row : Refused.outside(1)) {
            refused("15: no row " + row + " of a filter", NONE, x -> x.cell(4, row, 0));
        }
        for (int row : Refused.outside(4)) {
            Refused.call("15: no row " + row + " of four", Fixture::sixtyFourRows, NONE, x -> x.cell(0, row, 0));
        }
        for (int row : Refused.outside(64)) {
            Refused.call("15: no row " + row + " of 64", Fixture::sixtyFourRows, NONE, x -> x.cell(2, row, 5));
        }
    }

    private static void moreThan64Rows() {
        for (int view = 5; view < 8; view++) {
            int asked = view;
            refusedOver64("14: 65 rows, " + view, Refused.STATE, x -> x.rows(asked));
            refusedOver64("15: 65 rows, " + view, Refused.STATE, x -> x.cell(asked, 0, 0));
            refusedOver64("16: 65 rows, " + view, Refused.STATE, x -> x.nulls(asked, 0));
            refusedOver64("17: 65 rows, " + view, Refused.STATE, x -> x.doubles(asked, 0));
        }
    }

    private static void noColumnOfMoreThan64Rows() {
        for (int column : Refused.outside(1)) {
            for (int view = 5; view < 7; view++) {
                int asked = view;
                String what = "no column " + column + " of 65 rows, " + view;
                refusedOver64("15: " + what, Refused.BOUNDS, x -> x.cell(asked, 0, column));
                refusedOver64("15: " + what + " and no row", Refused.BOUNDS, x -> x.cell(asked, 65, column));
                refusedOver64("16: " + what, Refused.BOUNDS, x -> x.nulls(asked, column));
                refusedOver64("17: " + what, Refused.BOUNDS, x -> x.doubles(asked, column));
            }
        }
    }

    private static void noRowOfMoreThan64Rows() {
        for (int row : new int[] {-1, 64, 65, Integer.MIN_VALUE, Integer.MAX_VALUE}) {
            refusedOver64("15: no row " + row + " of 65 rows", Refused.STATE, x -> x.cell(5, row, 0));
            refusedOver64("15: no row " + row + " of a filter", Refused.STATE, x -> x.cell(6, row, 0));
        }
    }
}
