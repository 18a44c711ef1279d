import java.util.ArrayList;
import java.util.List;

/**
 * The second sentence of the Terms, and the calls that must agree with one another in every catalogue: what `changes`
 * tells beforehand is what is seen after `set`, and what is told unaffected never changes; values, controls, first
 * origins, shares, means and users are those that the effects give. No second program is asked, so that a sentence
 * that the model read wrongly shows here.
 */
public final class AgreementTest {
    private static final int CATALOGUES = 400;
    private static final int CHANGES_EACH = 40;
    private static final int CALLS = 512;
    private static final int CALLS_FOR_RELATIONS = 150;
    private static final int TABLES = 3;

    private final long seed;
    private long state;
    private int calls;
    private QueryLineage x;
    private final List<Integer> tables = new ArrayList<>();

    private AgreementTest(long seed) {
        this.seed = seed;
    }

    public static void main(String[] args) {
        for (int seed = 0; seed < CATALOGUES; seed++) {
            AgreementTest test = new AgreementTest(seed);
            for (int change = 0; change < CHANGES_EACH; change++) {
                test.changeAndLook(change);
            }
            test.make();
            int relations = test.x.relations();
            for (int relation = 0; relation < relations; relation++) {
                test.traceRelation(relation);
                test.usersOf(relation);
            }
            test.shares();
        }
        Check.end();
    }

    /** The same catalogue each time: an object is asked no more than it is promised for. */
    private void make() {
        state = seed * 7919L + 17L;
        calls = 0;
        x = new QueryLineage();
        tables.clear();
        int many = isCrowded() ? 1 : 1 + below(TABLES);
        for (int i = 0; i < many; i++) {
            makeTable();
        }
        while (x.relations() < 10 && calls < CALLS_FOR_RELATIONS) {
            if (tables.size() < TABLES && below(12) == 0) {
                makeTable();
            } else {
                makeView();
            }
            Check.outcome(() -> x.addColumn(tables.get(below(tables.size())), below(2) == 0));
            calls += 9;
        }
        for (int table : tables) {
            setNumbers(table, x.rows(table), x.columns(table));
        }
    }

    private void setNumbers(int table, int rows, int columns) {
        for (int cell = 0; cell < rows * columns; cell++) {
            int row = cell / columns;
            int column = cell % columns;
            int value = below(column == 0 ? 8 : 3) - below(2);
            if (!isCrowded() || below(4) == 0) {
                Check.outcome(() -> x.set(table, row, column, value));
            }
        }
        calls += 2 + rows * columns;
    }

    /** In each second catalogue there are so many rows that those of some relations cannot be asked for. */
    private boolean isCrowded() {
        return seed % 2 == 1;
    }

    private void makeView() {
        int[] growing = {1, 3, 4, 5, 5, 2};
        int last = x.relations() - 1;
        if (isCrowded()) {
            makeView(growing[below(growing.length)], last - below(Math.min(2, last + 1)), below(last + 1));
        } else {
            makeView(below(7), below(last + 1), below(last + 1));
        }
    }

    private void makeTable() {
        int table = x.addTable();
        tables.add(table);
        int columns = isCrowded() ? 2 : below(3);
        for (int i = 0; i < columns; i++) {
            x.addColumn(table, below(2) == 0);
        }
        int rows = isCrowded() ? 4 : 1 + below(4);
        for (int i = 0; i < rows; i++) {
            x.addRow(table);
        }
        calls += 9;
    }

    private void makeView(int kind, int first, int second) {
        int a = below(x.columns(first));
        int b = below(x.columns(first));
        int other = below(x.columns(second));
        switch (kind) {
            case 0 -> x.star(first);
            case 1 -> x.pick(first, a, b, below(x.columns(first) + 1) - 1);
            case 2 -> x.filter(first, a, below(3));
            case 3 -> Check.outcome(() -> x.join(first, second, a, other, false));
            case 4 -> Check.outcome(() -> x.join(first, second, a, other, true));
            case 5 -> Check.outcome(() -> x.union(first, second));
            default -> x.sum(first, a, b);
        }
    }

    /** Asks beforehand, sets the number, looks, sets it back and looks again. */
    private void changeAndLook(int change) {
        make();
        state += change * 104729L;
        int table = tables.get(below(tables.size()));
        int row = below(x.rows(table));
        int column = below(x.columns(table));
        int value = column == 0 ? below(10) : below(5) - 1;
        int relation = below(x.relations());
        int other = below(x.columns(relation));
        String what = "19: catalogue " + seed + ", change " + change + ": ";
        String shownBefore = shown(relation, other);
        char effect = x.effect(table, column, relation, other);
        String told = Check.outcome(() -> x.changes(table, row, column, value, relation, other));
        Check.same(what + "as before", shown(relation, other), shownBefore);
        String set = Check.outcome(() -> x.set(table, row, column, value));
        calls += 10;
        if (set.endsWith("Exception")) {
            Check.same(what + "refused as set is", told, set);
            return;
        }
        String shownAfter = shown(relation, other);
        boolean cannotAsk = shownBefore.equals("IllegalStateException") || shownAfter.equals("IllegalStateException");
        Check.same(what + "told", told,
            cannotAsk ? "IllegalStateException" : String.valueOf(!shownBefore.equals(shownAfter)));
        if (effect == 'n') {
            Check.same(what + "told unaffected", shownAfter, shownBefore);
        }
        Check.same(what + "number before", x.set(table, row, column, Integer.parseInt(set)), value);
        Check.same(what + "set back", shown(relation, other), shownBefore);
        Check.same(what + "no more calls than are promised", calls <= CALLS, true);
    }

    /** The numbers of a column, or the exception; and what `nulls` and `doubles` count among them. */
    private String shown(int relation, int column) {
        calls += 3;
        String rows = Check.outcome(() -> x.rows(relation));
        if (rows.endsWith("Exception")) {
            Check.same("16: as rows", Check.outcome(() -> x.nulls(relation, column)), rows);
            Check.same("17: as rows", Check.outcome(() -> x.doubles(relation, column)), rows);
            return rows;
        }
        List<Integer> numbers = new ArrayList<>();
        int nulls = 0;
        int doubles = 0;
        for (int row = 0; row < Integer.parseInt(rows); row++) {
            int number = x.cell(relation, row, column);
            nulls += number == -1 ? 1 : 0;
            doubles += number != -1 && numbers.contains(number) ? 1 : 0;
            numbers.add(number);
            calls++;
        }
        Check.same("16: nothing in " + numbers, x.nulls(relation, column), nulls);
        Check.same("17: doubles in " + numbers, x.doubles(relation, column), doubles);
        if (calls < CALLS / 2) {
            calls += 2;
            Check.same("24: " + numbers, x.isNeverNull(relation, column) && nulls > 0, false);
            Check.same("25: " + numbers, x.isNeverTwice(relation, column) && doubles > 0, false);
        }
        return numbers.toString();
    }

    private void traceRelation(int relation) {
        make();
        String what = "catalogue " + seed + ", relation " + relation;
        int columns = x.columns(relation);
        int allValues = 0;
        int controlsSeen = 0;
        int effectsSeen = 0;
        int[] values = new int[columns];
        int[] first = new int[columns];
        for (int table : tables) {
            for (int cause = 0; cause < x.columns(table); cause++) {
                boolean isControl = false;
                boolean hasEffect = false;
                for (int column = 0; column < columns; column++) {
                    char effect = x.effect(table, cause, relation, column);
                    isControl |= effect == 'c';
                    hasEffect |= effect != 'n';
                    if (effect == 'v') {
                        first[column] = values[column] == 0 ? table * 10 + cause : first[column];
                        values[column]++;
                        allValues++;
                    }
                }
                controlsSeen += isControl ? 1 : 0;
                effectsSeen += hasEffect ? 1 : 0;
            }
        }
        for (int column = 0; column < columns; column++) {
            Check.same("20: " + what, x.values(relation, column), values[column]);
            Check.same("22: " + what, x.firstTable(relation, column), first[column] / 10);
            Check.same("23: " + what, x.firstColumn(relation, column), first[column] % 10);
        }
        int controls = x.controls(relation);
        Check.same("21: " + what + ": no fewer than are seen", controls >= controlsSeen, true);
        Check.same("21: " + what + ": no more than have effects", controls <= effectsSeen, true);
        Check.same("28: " + what, x.meanValues(relation), (double) allValues / (double) columns);
    }

    /** A view on which a column of a table has an effect is found from this table. */
    private void usersOf(int relation) {
        make();
        boolean isTable = tables.contains(relation);
        int affected = 0;
        for (int view = relation + 1; isTable && view < x.relations(); view++) {
            boolean hasEffect = false;
            for (int column = 0; column < x.columns(view) && !tables.contains(view); column++) {
                hasEffect |= x.effect(relation, 0, view, column) != 'n';
            }
            affected += hasEffect ? 1 : 0;
        }
        int users = x.users(relation);
        Check.same("26: catalogue " + seed + ", users of " + relation, users >= affected, true);
        Check.same("26: only later ones", users < x.relations() - relation, true);
    }

    private void shares() {
        make();
        int table = tables.get(below(tables.size()));
        int cause = below(x.columns(table));
        int affected = 0;
        int all = 0;
        for (int view = 0; view < x.relations(); view++) {
            for (int column = 0; column < x.columns(view) && !tables.contains(view); column++) {
                affected += x.effect(table, cause, view, column) != 'n' ? 1 : 0;
                all++;
            }
        }
        Check.same("27: catalogue " + seed, Check.outcome(() -> x.affectedShare(table, cause)),
            all == 0 ? "ArithmeticException" : String.valueOf((float) affected / (float) all));
    }

    private int below(int bound) {
        state = state * 6364136223846793005L + 1442695040888963407L;
        return (int) ((state >>> 33) % bound);
    }
}
