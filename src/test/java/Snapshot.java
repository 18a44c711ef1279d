/**
 * What a relation answers, and what the next calls that add or set something answer, as a text.
 * It takes fewer than 300 calls, so that an object with it stays under its 512.
 */
final class Snapshot {
    private static final int ROWS = 8;
    private static final int TABLES = 2;
    private static final int TABLE_COLUMNS = 5;

    private final QueryLineage x;
    private final int relation;
    private final StringBuilder told = new StringBuilder();

    private Snapshot(QueryLineage x, int relation) {
        this.x = x;
        this.relation = relation;
    }

    /** For a number that no relation has, too: then it is what the catalogue answers without it. */
    static String of(QueryLineage x, int relation) {
        Snapshot snapshot = new Snapshot(x, relation);
        snapshot.tellRelation();
        if (relation >= 0 && relation < x.relations()) {
            for (int column = 0; column < x.columns(relation); column++) {
                snapshot.tellColumn(column);
            }
        }
        snapshot.tellWhatComesNext();
        return snapshot.told.toString();
    }

    private void tell(String what, Check.Call call) {
        told.append(what).append('=').append(Check.outcome(call)).append(' ');
    }

    private void tellRelation() {
        tell("relations", () -> x.relations());
        tell("columns", () -> x.columns(relation));
        tell("rows", () -> x.rows(relation));
        tell("controls", () -> x.controls(relation));
        tell("users", () -> x.users(relation));
        tell("mean", () -> x.meanValues(relation));
        for (int column = 0; column < TABLE_COLUMNS; column++) {
            int changed = column;
            tell("share", () -> x.affectedShare(0, changed));
        }
    }

    private void tellColumn(int column) {
        told.append("\ncolumn ").append(column).append(": ");
        tell("nulls", () -> x.nulls(relation, column));
        tell("doubles", () -> x.doubles(relation, column));
        tell("values", () -> x.values(relation, column));
        tell("table", () -> x.firstTable(relation, column));
        tell("from", () -> x.firstColumn(relation, column));
        tell("filled", () -> x.isNeverNull(relation, column));
        tell("unique", () -> x.isNeverTwice(relation, column));
        for (int row = 0; row < ROWS; row++) {
            int asked = row;
            tell("cell", () -> x.cell(relation, asked, column));
        }
        for (int cause = 0; cause < TABLES * TABLE_COLUMNS; cause++) {
            int table = cause / TABLE_COLUMNS;
            int changed = cause % TABLE_COLUMNS;
            tell("effect", () -> x.effect(table, changed, relation, column));
        }
    }

    private void tellWhatComesNext() {
        told.append("\nnext: ");
        tell("set", () -> x.set(relation, 0, 0, 77));
        tell("addColumn", () -> x.addColumn(relation, true));
        tell("addRow", () -> x.addRow(relation));
        tell("columns", () -> x.columns(relation));
        tell("rows", () -> x.rows(relation));
        tell("star", () -> x.star(relation));
        tell("addTable", () -> x.addTable());
    }
}
