/** Promises 6 to 11: the outermost calls that are still allowed, and what the views show then. */
public final class EdgeViewsTest {
    public static void main(String[] args) {
        tenthRelation();
        starOfWhatComesLater();
        pickOfEachColumn();
        pickFromEightColumns();
        filterAtItsNumber();
        filterOfLargeSums();
        filterOfNothing();
        joinOfEachColumn();
        joinOfEightColumns();
        joinWithItself();
        joinOfNothing();
        joinOfAll();
        unionOfAll();
        sumOfOutermostGroups();
        sumOfNothing();
        sumOfOneColumn();
        sumOfSums();
        sumOfEightColumns();
        Check.end();
    }

    private static void tenth(String what, Refused.Asked asked) {
        QueryLineage x = Fixture.catalogue();
        Check.same(what, asked.of(x), 9);
        Check.same(what + ": relations", x.relations(), 10);
        Check.same(what + ": a user of a table", x.users(0), 8);
    }

    private static void tenthRelation() {
        tenth("6: star of the first relation", x -> x.star(0));
        tenth("6: star of the last relation", x -> x.star(8));
        tenth("7: pick of the first column", x -> x.pick(0, 0, -1, -1));
        tenth("7: pick of the last columns", x -> x.pick(8, 1, 1, 1));
        tenth("8: filter at 0", x -> x.filter(0, 0, 0));
        tenth("8: filter at 99", x -> x.filter(8, 1, 99));
        tenth("9: join of first columns", x -> x.join(0, 1, 0, 0, false));
        tenth("9: join of last columns", x -> x.join(8, 6, 1, 5, true));
        tenth("10: union of the first relation", x -> x.union(0, 0));
        tenth("10: union of the last relation", x -> x.union(8, 3));
        tenth("11: sum of first columns", x -> x.sum(0, 0, 0));
        tenth("11: sum of last columns", x -> x.sum(8, 1, 1));
    }

    private static void starOfWhatComesLater() {
        QueryLineage x = new QueryLineage();
        x.addTable();
        x.star(0);
        x.star(1);
        for (int column = 1; column < 5; column++) {
            x.addColumn(0, column % 2 == 0);
            Check.same("6: later columns", x.columns(2), column + 1);
        }
        for (int row = 0; row < 4; row++) {
            x.addRow(0);
            Check.same("6: later rows", x.rows(2), row + 1);
        }
        x.set(0, 3, 4, 99);
        Check.same("6: all of them", Fixture.shown(x, 2),
            "[[0, 0, -1, 0, -1], [1, 0, -1, 0, -1], [2, 0, -1, 0, -1], [3, 0, -1, 0, 99]]");
    }

    private static void pickOfEachColumn() {
        for (int first = 0; first < 3; first++) {
            for (int second = -1; second < 3; second++) {
                for (int third = -1; third < (second == -1 ? 0 : 3); third++) {
                    QueryLineage x = new QueryLineage();
                    Fixture.table(x, new int[] {7, 8, -1});
                    int[] numbers = {7, 8, -1};
                    Check.same("7: number of the relation", x.pick(0, first, second, third), 1);
                    Check.same("7: columns", x.columns(1), second == -1 ? 1 : third == -1 ? 2 : 3);
                    String due = "[[" + numbers[first] + (second == -1 ? "" : ", " + numbers[second])
                        + (third == -1 ? "" : ", " + numbers[third]) + "]]";
                    Check.same("7: pick " + first + " " + second + " " + third, Fixture.shown(x, 1), due);
                }
            }
        }
    }

    /** Tables of four columns, joined to eight; the last one has the number 9. */
    private static QueryLineage eightColumns() {
        QueryLineage x = Fixture.twoTables(4, 4);
        x.set(1, 0, 3, 9);
        x.join(0, 1, 0, 0, true);
        return x;
    }

    private static void pickFromEightColumns() {
        QueryLineage x = eightColumns();
        x.pick(2, 7, 0, 7);
        Check.same("7: eighth column", Fixture.shown(x, 3), "[[9, 0, 9]]");
        x.pick(3, 2, 1, -1);
        Check.same("7: pick of a pick", Fixture.shown(x, 4), "[[9, 0]]");
        x.set(1, 0, 3, 99);
        Check.same("7: found anew", Fixture.shown(x, 4), "[[99, 0]]");
        x.filter(2, 7, 99);
        Check.same("8: eighth column", x.rows(5), 1);
        x.sum(2, 7, 7);
        Check.same("11: eighth column", Fixture.shown(x, 6), "[[99, 99]]");
    }

    private static void filterAtItsNumber() {
        for (int least : new int[] {0, 1, 50, 98, 99}) {
            QueryLineage x = Fixture.keyed(new int[] {0, 0}, new int[] {99, 99}, new int[] {least == 50 ? 49 : 1, 50});
            x.filter(0, 1, least);
            Check.same("8: one more for one less", x.rows(1), least == 0 ? 3 : least <= 50 ? 2 : 1);
            x.set(0, 0, 1, least);
            Check.same("8: the number itself", x.cell(1, 0, 1), least);
            if (least > 0) {
                x.set(0, 0, 1, least - 1);
                Check.same("8: one less", x.cell(1, 0, 0) == 0, false);
            }
        }
    }

    private static void filterOfLargeSums() {
        QueryLineage x = Fixture.keyed(new int[] {0, 99}, new int[] {1, 1}, new int[] {2, 98}, new int[] {3, 0});
        x.pick(0, 1, 1, -1);
        x.union(1, 1);
        x.sum(2, 0, 1);
        x.filter(3, 1, 99);
        Check.same("8: sums above 99", Fixture.shown(x, 4), "[[98, 196], [99, 198]]");
    }

    private static void filterOfNothing() {
        QueryLineage x = Fixture.keyed(new int[] {0, -1}, new int[] {1, 0}, new int[] {2, -1});
        x.filter(0, 1, 0);
        Check.same("8: nothing is not shown at 0", Fixture.shown(x, 1), "[[1, 0]]");
        x.set(0, 1, 1, -1);
        Check.same("8: nothing at all", x.rows(1), 0);
        x.filter(0, 0, 0);
        Check.same("8: nothing in another column", Fixture.shown(x, 2), "[[0, -1], [1, -1], [2, -1]]");
    }

    /** One row of 1, 2 and one of 2, 1: which columns are told decides whether they meet. */
    private static void joinOfEachColumn() {
        for (int told = 0; told < 4; told++) {
            int first = told / 2;
            int second = told % 2;
            QueryLineage x = Fixture.keyed(new int[] {1, 2});
            x.addTable();
            x.addColumn(1, true);
            x.addRow(1);
            x.set(1, 0, 0, 2);
            x.set(1, 0, 1, 1);
            x.join(0, 1, first, second, false);
            x.join(0, 1, first, second, true);
            boolean isMet = first != second;
            Check.same("9: join on " + told, Fixture.shown(x, 2), isMet ? "[[1, 2, 2, 1]]" : "[]");
            Check.same("9: outer join on " + told, Fixture.shown(x, 3), isMet ? "[[1, 2, 2, 1]]" : "[[1, 2, -1, -1]]");
        }
        QueryLineage y = Fixture.twoTables(1, 5);
        Check.same("9: last column of a second source of more columns", y.join(0, 1, 0, 4, false), 2);
        Check.same("9: last column of a first source of more columns", y.join(1, 0, 4, 0, false), 3);
    }

    private static void joinOfEightColumns() {
        QueryLineage x = eightColumns();
        Check.same("9: eight columns", x.columns(2), 8);
        Check.same("9: shown", Fixture.shown(x, 2), "[[0, -1, -1, -1, 0, -1, -1, 9]]");
        QueryLineage y = Fixture.twoTables(5, 3);
        Check.same("9: 5 and 3 columns", y.join(0, 1, 4, 2, false), 2);
        Check.same("9: 3 and 5 columns", y.join(1, 0, 2, 4, true), 3);
        Check.same("9: 8 columns", y.columns(3), 8);
    }

    private static void joinWithItself() {
        QueryLineage x = Fixture.keyed(new int[] {1, 2}, new int[] {2, 2}, new int[] {3, -1});
        x.join(0, 0, 0, 0, false);
        Check.same("9: each row with itself", Fixture.shown(x, 1), "[[1, 2, 1, 2], [2, 2, 2, 2], [3, -1, 3, -1]]");
        x.join(0, 0, 0, 1, true);
        Check.same("9: in order of the first, then of the second", Fixture.shown(x, 2),
            "[[1, 2, -1, -1], [2, 2, 1, 2], [2, 2, 2, 2], [3, -1, -1, -1]]");
    }

    private static void joinOfNothing() {
        QueryLineage x = Fixture.keyed(new int[] {0, -1}, new int[] {1, 0});
        x.join(0, 0, 1, 1, false);
        x.join(0, 0, 1, 1, true);
        Check.same("9: nothing meets nothing not", Fixture.shown(x, 1), "[[1, 0, 1, 0]]");
        Check.same("9: nothing alone", Fixture.shown(x, 2), "[[0, -1, -1, -1], [1, 0, 1, 0]]");
        x.set(0, 1, 1, -1);
        Check.same("9: nothing alone meets nothing not", x.rows(1), 0);
        Check.same("9: all alone", x.rows(2), 2);
    }

    private static void joinOfAll() {
        QueryLineage x = Fixture.sixtyFourRows();
        Check.same("9: 4 rows with 4 rows", x.rows(1), 16);
        Check.same("9: first of 16", x.cell(1, 0, 2), 0);
        Check.same("9: fourth of 16, second source", x.cell(1, 3, 2), 3);
        Check.same("9: fourth of 16, first source", x.cell(1, 3, 0), 0);
        Check.same("9: fifth of 16, second source", x.cell(1, 4, 2), 0);
        Check.same("9: fifth of 16, first source", x.cell(1, 4, 0), 1);
        x.join(0, 0, 1, 1, true);
        Check.same("9: outer, none is alone", Fixture.shown(x, 3), Fixture.shown(x, 1));
    }

    private static void unionOfAll() {
        QueryLineage x = Fixture.keyed(new int[] {3, 1}, new int[] {0, -1});
        x.pick(0, 1, 0, -1);
        x.union(0, 1);
        x.union(1, 0);
        x.union(2, 2);
        Check.same("10: first, then second", Fixture.shown(x, 2), "[[3, 1], [0, -1], [1, 3], [-1, 0]]");
        Check.same("10: second, then first", Fixture.shown(x, 3), "[[1, 3], [-1, 0], [3, 1], [0, -1]]");
        Check.same("10: twice the same", x.rows(4), 8);
        Check.same("10: the same rows again", x.cell(4, 7, 1), 0);
        QueryLineage y = eightColumns();
        y.union(2, 2);
        Check.same("10: eight columns", Fixture.shown(y, 3),
            "[[0, -1, -1, -1, 0, -1, -1, 9], [0, -1, -1, -1, 0, -1, -1, 9]]");
    }

    private static void sumOfOutermostGroups() {
        QueryLineage x = Fixture.keyed(new int[] {9, -1}, new int[] {8, 99}, new int[] {7, 0}, new int[] {6, 50});
        x.sum(0, 1, 0);
        Check.same("11: 0 first, nothing last", Fixture.shown(x, 1), "[[0, 7], [50, 6], [99, 8], [-1, 9]]");
        x.sum(0, 0, 1);
        Check.same("11: nothing to be summed", Fixture.shown(x, 2), "[[6, 50], [7, 0], [8, 99], [9, -1]]");
        x.set(0, 1, 1, 0);
        x.set(0, 3, 1, -1);
        Check.same("11: two groups of two", Fixture.shown(x, 1), "[[0, 15], [-1, 15]]");
    }

    private static void sumOfNothing() {
        QueryLineage x = new QueryLineage();
        Fixture.table(x, new int[] {0, 5, -1}, new int[] {1, 5, 4}, new int[] {2, 5, -1}, new int[] {3, 6, -1});
        x.sum(0, 1, 2);
        Check.same("11: a sum passes over nothing", Fixture.shown(x, 1), "[[5, 4], [6, -1]]");
        x.set(0, 3, 2, 0);
        Check.same("11: a sum of 0", Fixture.shown(x, 1), "[[5, 4], [6, 0]]");
        x.set(0, 1, 2, -1);
        Check.same("11: three times nothing", Fixture.shown(x, 1), "[[5, -1], [6, 0]]");
        x.sum(0, 2, 2);
        Check.same("11: nothing as the group and the other column", Fixture.shown(x, 2), "[[0, 0], [-1, -1]]");
        x.sum(0, 2, 0);
        Check.same("11: sum of the group of nothing", Fixture.shown(x, 3), "[[0, 3], [-1, 3]]");
    }

    private static void sumOfOneColumn() {
        QueryLineage x = Fixture.keyed(new int[] {0, 99}, new int[] {1, 99}, new int[] {2, 99}, new int[] {3, 99});
        x.sum(0, 1, 1);
        Check.same("11: the group is the other column", Fixture.shown(x, 1), "[[99, 396]]");
        x.sum(0, 0, 0);
        Check.same("11: a key each", Fixture.shown(x, 2), "[[0, 0], [1, 1], [2, 2], [3, 3]]");
    }

    private static void sumOfSums() {
        QueryLineage x = Fixture.keyed(new int[] {0, 1}, new int[] {1, 99}, new int[] {2, -1}, new int[] {3, 99});
        x.sum(0, 1, 1);
        x.sum(1, 1, 0);
        Check.same("11: groups above 99", Fixture.shown(x, 2), "[[1, 1], [198, 99], [-1, -1]]");
        QueryLineage y = Fixture.sixtyFourRows();
        y.sum(2, 1, 0);
        Check.same("11: sum of 64 rows", Fixture.shown(y, 3), "[[0, 96]]");
        y.sum(2, 0, 4);
        Check.same("11: sums of 16 rows each", Fixture.shown(y, 4), "[[0, 24], [1, 24], [2, 24], [3, 24]]");
    }

    private static void sumOfEightColumns() {
        QueryLineage x = eightColumns();
        x.sum(2, 0, 7);
        x.sum(2, 7, 0);
        Check.same("11: eighth column summed", Fixture.shown(x, 3), "[[0, 9]]");
        Check.same("11: eighth column as the group", Fixture.shown(x, 4), "[[9, 0]]");
    }
}
