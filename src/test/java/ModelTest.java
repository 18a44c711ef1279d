/**
 * Long runs of calls, right ones and wrong ones, whose answers are compared with those of the model. Each run asks its
 * object exactly as many calls as the document allows.
 */
public final class ModelTest {
    private static final int RUNS = 3500;
    private static final int CALLS = 512;
    private static final int CALLS_BEFORE_CHECKS = 220;

    private long state;
    private int calls;
    private QueryLineage x;
    private Model y;

    public static void main(String[] args) {
        for (int run = 0; run < RUNS; run++) {
            new ModelTest().run(run);
        }
        Check.end();
    }

    private void run(int run) {
        state = run * 7919L + 17L;
        x = new QueryLineage();
        y = new Model();
        int tables = 1 + below(3);
        while (calls < CALLS_BEFORE_CHECKS) {
            if (calls < tables) {
                compare("addTable", () -> x.addTable(), () -> y.addTable());
            } else if (calls < 6 + tables * 5) {
                table(below(4));
            } else {
                call(below(100));
            }
        }
        check(run);
        while (calls < CALLS) {
            call(below(100));
        }
        Check.same("run " + run + ": calls", calls, CALLS);
    }

    /** Few relations in each run, as the calls are counted. */
    private void check(int run) {
        int part = run % 7;
        if (part < 2) {
            compareTraces("run " + run + " ", part * 5, part * 5 + 5);
        } else {
            checkWhatIsTold("run " + run + " ", part * 2 - 4, part * 2 - 2);
        }
    }

    private void call(int kind) {
        if (kind < 20) {
            table(kind % 4);
        } else if (kind < 40) {
            view(below(8));
        } else if (kind < 60) {
            show(below(6));
        } else {
            trace(below(11));
        }
    }

    private void table(int kind) {
        int t = relation();
        int row = number(4);
        int column = column(t);
        int value = below(4) == 0 ? number(100) : number(3);
        boolean flag = below(2) == 0;
        switch (kind) {
            case 0 -> compare("addColumn " + t + flag, () -> x.addColumn(t, flag), () -> y.addColumn(t, flag));
            case 1 -> compare("addRow " + t, () -> x.addRow(t), () -> y.addRow(t));
            default -> compare("set " + t + " " + row + " " + column + " " + value,
                () -> x.set(t, row, column, value), () -> y.set(t, row, column, value));
        }
    }

    private void view(int kind) {
        int a = relation();
        int b = relation();
        int c = column(a);
        int d = column(kind == 3 ? b : a);
        int e = column(a);
        boolean flag = below(2) == 0;
        int least = below(4) == 0 ? number(100) : number(3);
        String told = " " + a + " " + b + " " + c + " " + d + " " + e + " " + flag + " " + least;
        switch (kind) {
            case 0 -> compare("star" + told, () -> x.star(a), () -> y.star(a));
            case 1 -> compare("pick" + told, () -> x.pick(a, c, d, e), () -> y.pick(a, c, d, e));
            case 2 -> compare("filter" + told, () -> x.filter(a, c, least), () -> y.filter(a, c, least));
            case 4 -> compare("union" + told, () -> x.union(a, b), () -> y.union(a, b));
            case 5 -> compare("sum" + told, () -> x.sum(a, c, d), () -> y.sum(a, c, d));
            case 6 -> compare("pick one" + told, () -> x.pick(a, c, -1, -1), () -> y.pick(a, c, -1, -1));
            default -> compare("join" + told, () -> x.join(a, b, c, d, flag), () -> y.join(a, b, c, d, flag));
        }
    }

    private void show(int kind) {
        int r = relation();
        int c = column(r);
        int row = number(below(2) == 0 ? 6 : 66);
        switch (kind) {
            case 0 -> compare("relations", () -> x.relations(), () -> y.relations());
            case 1 -> compare("columns " + r, () -> x.columns(r), () -> y.columns(r));
            case 2 -> compare("rows " + r, () -> x.rows(r), () -> y.rows(r));
            case 3 -> compare("cell " + r + " " + row + " " + c, () -> x.cell(r, row, c), () -> y.cell(r, row, c));
            case 4 -> compare("nulls " + r + " " + c, () -> x.nulls(r, c), () -> y.nulls(r, c));
            default -> compare("doubles " + r + " " + c, () -> x.doubles(r, c), () -> y.doubles(r, c));
        }
    }

    private void trace(int kind) {
        int t = below(4) == 0 ? relation() : below(3);
        int tc = column(t);
        int r = relation();
        int c = column(r);
        int row = number(4);
        int value = below(4) == 0 ? number(100) : number(3);
        switch (kind) {
            case 0 -> compare("values", () -> x.values(r, c), () -> y.values(r, c));
            case 1 -> compare("controls", () -> x.controls(r), () -> y.controls(r));
            case 2 -> compare("firstTable", () -> x.firstTable(r, c), () -> y.firstTable(r, c));
            case 3 -> compare("firstColumn", () -> x.firstColumn(r, c), () -> y.firstColumn(r, c));
            case 4 -> compare("isNeverNull", () -> x.isNeverNull(r, c), () -> y.isNeverNull(r, c));
            case 5 -> compare("isNeverTwice", () -> x.isNeverTwice(r, c), () -> y.isNeverTwice(r, c));
            case 6 -> compare("users", () -> x.users(r), () -> y.users(r));
            case 7 -> compare("affectedShare", () -> x.affectedShare(t, tc), () -> y.affectedShare(t, tc));
            case 8 -> compare("meanValues", () -> x.meanValues(r), () -> y.meanValues(r));
            case 9 -> compare("effect", () -> x.effect(t, tc, r, c), () -> y.effect(t, tc, r, c));
            default -> compare("changes " + t + " " + row + " " + tc + " " + value + " " + r + " " + c,
                () -> x.changes(t, row, tc, value, r, c), () -> y.changes(t, row, tc, value, r, c));
        }
    }

    private void compareTraces(String run, int first, int end) {
        for (int i = first; i < end && i < y.relations(); i++) {
            int r = i;
            compare(run + "controls " + r, () -> x.controls(r), () -> y.controls(r));
            compare(run + "users " + r, () -> x.users(r), () -> y.users(r));
            compare(run + "mean " + r, () -> x.meanValues(r), () -> y.meanValues(r));
            for (int j = 0; j < y.columns(r); j++) {
                int c = j;
                compare(run + "values", () -> x.values(r, c), () -> y.values(r, c));
                compare(run + "null", () -> x.isNeverNull(r, c), () -> y.isNeverNull(r, c));
                compare(run + "twice", () -> x.isNeverTwice(r, c), () -> y.isNeverTwice(r, c));
                compare(run + "nulls", () -> x.nulls(r, c), () -> y.nulls(r, c));
                compare(run + "doubles", () -> x.doubles(r, c), () -> y.doubles(r, c));
                compare(run + "share", () -> x.affectedShare(r, c), () -> y.affectedShare(r, c));
            }
        }
    }

    /** What is told unaffected never changes; and what is told never null or never twice is so. */
    private void checkWhatIsTold(String run, int first, int end) {
        for (int r = first; r < end && r < y.relations(); r++) {
            for (int c = 0; c < y.columns(r); c++) {
                int relation = r;
                int column = c;
                if (asked(() -> x.isNeverNull(relation, column)).equals("true")) {
                    String nulls = asked(() -> x.nulls(relation, column));
                    Check.same(run + "never null", nulls.equals("0") || nulls.equals("IllegalStateException"), true);
                }
                if (asked(() -> x.isNeverTwice(relation, column)).equals("true")) {
                    String doubles = asked(() -> x.doubles(relation, column));
                    Check.same(run + "never twice", doubles.equals("0") || doubles.equals("IllegalStateException"),
                        true);
                }
                for (int row = 0; row < 4; row++) {
                    int changed = row;
                    int told = below(3);
                    int value = number(4);
                    String effect = asked(() -> x.effect(0, told, relation, column));
                    String changes = asked(() -> x.changes(0, changed, told, value, relation, column));
                    Check.same(run + "unaffected", effect.equals("n") && changes.equals("true"), false);
                }
            }
        }
    }

    private String asked(Check.Call call) {
        calls++;
        return Check.outcome(call);
    }

    private void compare(String what, Check.Call one, Check.Call other) {
        Check.same(what, asked(one), Check.outcome(other));
    }

    /** Mostly one that is there. */
    private int relation() {
        return below(20) == 0 ? number(12) : below(Math.max(1, y.relations()));
    }

    private int column(int relation) {
        boolean isThere = relation >= 0 && relation < y.relations();
        return !isThere || below(12) == 0 ? number(9) : below(y.columns(relation));
    }

    /** From -2 to that number. */
    private int number(int last) {
        return below(12) == 0 ? -1 - below(2) : below(last + 1);
    }

    private int below(int bound) {
        state = state * 6364136223846793005L + 1442695040888963407L;
        return (int) ((state >>> 33) % bound);
    }
}
