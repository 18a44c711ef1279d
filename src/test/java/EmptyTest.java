import java.util.NoSuchElementException;

/** Promise 1, and all others in an empty catalogue, for an empty table, and for views of one. */
public final class EmptyTest {
    public static void main(String[] args) {
        newObject();
        tablesOfEmptyCatalogue();
        viewsOfEmptyCatalogue();
        showsOfEmptyCatalogue();
        tracesOfEmptyCatalogue();
        setInEmptyTable();
        emptyTable();
        viewsOfEmptyTable();
        emptySources();
        Check.end();
    }

    private static void newObject() {
        QueryLineage x = new QueryLineage();
        Check.same("1: no relations", x.relations(), 0);
        Check.same("1: first number", x.addTable(), 0);
        QueryLineage y = new QueryLineage();
        Check.same("1: nothing of an earlier object", y.relations(), 0);
        Check.fails("1: no relation 0", Refused.BOUNDS, () -> y.columns(0));
    }

    private static void refused(String what, Refused.Asked asked) {
        Refused.call(what + " in an empty catalogue", QueryLineage::new, Refused.BOUNDS, asked);
    }

    private static void tablesOfEmptyCatalogue() {
        for (int relation : Refused.outside(0)) {
            refused("3: addColumn", x -> x.addColumn(relation, true));
            refused("4: addRow", x -> x.addRow(relation));
            refused("5: set", x -> x.set(relation, 0, 0, 0));
            refused("5: set, no number", x -> x.set(relation, 0, 0, 100));
        }
    }

    private static void viewsOfEmptyCatalogue() {
        for (int relation : Refused.outside(0)) {
            refused("6: star", x -> x.star(relation));
            refused("7: pick", x -> x.pick(relation, 0, -1, -1));
            refused("7: pick, third without second", x -> x.pick(relation, 0, -1, 0));
            refused("8: filter", x -> x.filter(relation, 0, 0));
            refused("8: filter, no number", x -> x.filter(relation, 0, 100));
            refused("9: join", x -> x.join(relation, relation, 0, 0, false));
            refused("10: union", x -> x.union(relation, relation));
            refused("11: sum", x -> x.sum(relation, 0, 0));
        }
    }

    private static void showsOfEmptyCatalogue() {
        Check.same("12: relations", new QueryLineage().relations(), 0);
        for (int relation : Refused.outside(0)) {
            refused("13: columns", x -> x.columns(relation));
            refused("14: rows", x -> x.rows(relation));
            refused("15: cell", x -> x.cell(relation, 0, 0));
            refused("16: nulls", x -> x.nulls(relation, 0));
            refused("17: doubles", x -> x.doubles(relation, 0));
        }
    }

    private static void tracesOfEmptyCatalogue() {
        for (int relation : Refused.outside(0)) {
            refused("18: effect", x -> x.effect(relation, 0, relation, 0));
            refused("19: changes", x -> x.changes(relation, 0, 0, 0, relation, 0));
            refused("19: changes, no number", x -> x.changes(relation, 0, 0, 100, relation, 0));
            refused("20: values", x -> x.values(relation, 0));
            refused("21: controls", x -> x.controls(relation));
            refused("22: firstTable", x -> x.firstTable(relation, 0));
            refused("23: firstColumn", x -> x.firstColumn(relation, 0));
            refused("24: isNeverNull", x -> x.isNeverNull(relation, 0));
            refused("25: isNeverTwice", x -> x.isNeverTwice(relation, 0));
            refused("26: users", x -> x.users(relation));
            refused("27: affectedShare, which comes ahead of no views", x -> x.affectedShare(relation, 0));
            refused("28: meanValues", x -> x.meanValues(relation));
        }
    }

    /** A key, a column that is not nullable, and one that is; and a star, which is empty, too. */
    private static QueryLineage emptyWithStar() {
        QueryLineage x = new QueryLineage();
        Fixture.table(x);
        x.star(0);
        return x;
    }

    private static void setInEmptyTable() {
        for (int value : new int[] {0, -1, 100}) {
            for (int column = 0; column < 3; column++) {
                int asked = column;
                Refused.call("5: no row 0", EmptyTest::emptyWithStar, Refused.BOUNDS,
                    x -> x.set(0, 0, asked, value));
                Refused.call("19: no row 0", EmptyTest::emptyWithStar, Refused.BOUNDS,
                    x -> x.changes(0, 0, asked, value, 1, 0));
            }
        }
        Refused.call("5: view of no rows", EmptyTest::emptyWithStar, Refused.ARGUMENT, x -> x.set(1, 0, 0, 0));
        Refused.call("19: view of no rows", EmptyTest::emptyWithStar, Refused.ARGUMENT,
            x -> x.changes(1, 0, 0, 0, 0, 0));
    }

    private static void showsNoRow(QueryLineage x, int relation) {
        Check.same("14: rows of " + relation, x.rows(relation), 0);
        for (int c = 0; c < x.columns(relation); c++) {
            int column = c;
            Check.same("16: nulls of " + relation, x.nulls(relation, column), 0);
            Check.same("17: doubles of " + relation, x.doubles(relation, column), 0);
            Check.fails("15: row 0 of " + relation, NoSuchElementException.class, () -> x.cell(relation, 0, column));
        }
    }

    private static void emptyTable() {
        QueryLineage x = new QueryLineage();
        x.addTable();
        showsNoRow(x, 0);
        Check.same("13: the key alone", x.columns(0), 1);
        Check.same("20: values of the key", x.values(0, 0), 1);
        Check.same("21: controls", x.controls(0), 0);
        Check.same("22: firstTable", x.firstTable(0, 0), 0);
        Check.same("23: firstColumn", x.firstColumn(0, 0), 0);
        Check.same("24: isNeverNull", x.isNeverNull(0, 0), true);
        Check.same("25: isNeverTwice", x.isNeverTwice(0, 0), true);
        Check.same("26: users", x.users(0), 0);
        Check.same("28: meanValues", x.meanValues(0), 1.0);
        Check.same("18: effect", x.effect(0, 0, 0, 0), 'v');
        x.star(0);
        Check.same("27: affectedShare", x.affectedShare(0, 0), 1f);
    }

    private static void viewsOfEmptyTable() {
        QueryLineage x = emptyWithStar();
        x.pick(0, 2, 1, 0);
        x.filter(0, 0, 0);
        x.join(0, 0, 0, 0, false);
        x.join(0, 0, 2, 2, true);
        x.union(0, 0);
        x.sum(0, 0, 1);
        x.sum(0, 2, 2);
        for (int view = 1; view < 9; view++) {
            showsNoRow(x, view);
        }
        Check.same("24: not null without rows, but not told to be", x.isNeverNull(1, 2), false);
        Check.same("25: not twice without rows, but not told to be", x.isNeverTwice(1, 1), false);
    }

    /** Table 1 is empty, table 0 is not. */
    private static void emptySources() {
        QueryLineage x = new QueryLineage();
        Fixture.table(x, new int[] {4, 1, -1}, new int[] {2, 1, 6});
        Fixture.table(x);
        x.join(0, 1, 0, 0, false);
        x.join(1, 0, 0, 0, false);
        x.join(0, 1, 0, 0, true);
        x.join(1, 0, 0, 0, true);
        x.union(0, 1);
        x.union(1, 0);
        Check.same("9: second source without rows", Fixture.shown(x, 2), "[]");
        Check.same("9: first source without rows", Fixture.shown(x, 3), "[]");
        Check.same("9: outer, second source without rows", Fixture.shown(x, 4),
            "[[4, 1, -1, -1, -1, -1], [2, 1, 6, -1, -1, -1]]");
        Check.same("9: outer, first source without rows", Fixture.shown(x, 5), "[]");
        Check.same("10: second source without rows", Fixture.shown(x, 6), "[[4, 1, -1], [2, 1, 6]]");
        Check.same("10: first source without rows", Fixture.shown(x, 7), "[[4, 1, -1], [2, 1, 6]]");
    }
}
