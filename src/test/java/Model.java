import java.util.ArrayList;
import java.util.Collections;
import java.util.List;
import java.util.NoSuchElementException;
import java.util.Set;
import java.util.TreeMap;
import java.util.TreeSet;

/** The document once more, with recursion and collections, to compare the class with. */
final class Model {
    private static final class Node {
        char kind;
        int a;
        int b;
        int[] told = {};
        boolean outer;
        final List<Boolean> nullable = new ArrayList<>();
        final List<List<Long>> rows = new ArrayList<>();
    }

    private final List<Node> nodes = new ArrayList<>();

    int addTable() {
        Node node = new Node();
        node.kind = 't';
        node.nullable.add(false);
        return add(node);
    }

    int addColumn(int table, boolean isNullable) {
        need(relation(table));
        Node node = table(table);
        if (node.nullable.size() == 5) {
            throw new IllegalStateException();
        }
        List<Integer> before = widths();
        node.nullable.add(isNullable);
        if (!stands(before)) {
            node.nullable.remove(node.nullable.size() - 1);
            throw new UnsupportedOperationException();
        }
        for (List<Long> row : node.rows) {
            row.add(isNullable ? null : (Long) 0L);
        }
        return node.nullable.size();
    }

    private List<Integer> widths() {
        List<Integer> widths = new ArrayList<>();
        for (int r = 0; r < nodes.size(); r++) {
            widths.add(width(r));
        }
        return widths;
    }

    private boolean stands(List<Integer> before) {
        for (int r = 0; r < nodes.size(); r++) {
            Node node = nodes.get(r);
            if (width(r) > 8
                || node.kind == 'u' && width(node.a) != width(node.b)
                || node.kind == 'j' && width(node.a) > before.get(node.a)) {
                return false;
            }
        }
        return true;
    }

    int addRow(int table) {
        need(relation(table));
        Node node = table(table);
        if (node.rows.size() == 4) {
            throw new IllegalStateException();
        }
        Set<Long> keys = new TreeSet<>();
        for (List<Long> row : node.rows) {
            keys.add(row.get(0));
        }
        long key = 0;
        while (keys.contains(key)) {
            key++;
        }
        List<Long> row = new ArrayList<>();
        row.add(key);
        for (boolean isNullable : node.nullable.subList(1, node.nullable.size())) {
            row.add(isNullable ? null : (Long) 0L);
        }
        node.rows.add(row);
        return node.rows.size() - 1;
    }

    int set(int table, int row, int column, int value) {
        need(relation(table));
        needCell(table, row, column);
        List<Long> changed = settable(table, row, column, value);
        return number(changed.set(column, value == -1 ? null : (Long) (long) value));
    }

    private void needCell(int table, int row, int column) {
        Node node = nodes.get(table);
        need(node.kind != 't' || row >= 0 && row < node.rows.size() && column >= 0 && column < node.nullable.size());
    }

    private List<Long> settable(int table, int row, int column, int value) {
        Node node = table(table);
        if (value < -1 || value > 99 || value == -1 && !node.nullable.get(column)) {
            throw new IllegalArgumentException();
        }
        for (int other = 0; other < node.rows.size() && column == 0; other++) {
            if (other != row && node.rows.get(other).get(0) == value) {
                throw new UnsupportedOperationException();
            }
        }
        return node.rows.get(row);
    }

    int star(int source) {
        need(relation(source));
        return addView('s', source, source);
    }

    int pick(int source, int first, int second, int third) {
        need(relation(source) && first != -1);
        for (int column : new int[] {first, second, third}) {
            need(column == -1 || column >= 0 && column < width(source));
        }
        if (second == -1 && third != -1) {
            throw new IllegalArgumentException();
        }
        return second == -1 ? addView('p', source, source, first)
            : third == -1 ? addView('p', source, source, first, second)
            : addView('p', source, source, first, second, third);
    }

    int filter(int source, int column, int least) {
        needColumn(source, column);
        if (least < 0 || least > 99) {
            throw new IllegalArgumentException();
        }
        return addView('f', source, source, column, least);
    }

    int join(int first, int second, int firstColumn, int secondColumn, boolean isOuter) {
        needColumn(first, firstColumn);
        needColumn(second, secondColumn);
        if (width(first) + width(second) > 8) {
            throw new UnsupportedOperationException();
        }
        int view = addView('j', first, second, firstColumn, secondColumn);
        nodes.get(view).outer = isOuter;
        return view;
    }

    int union(int first, int second) {
        need(relation(first) && relation(second));
        if (width(first) != width(second)) {
            throw new UnsupportedOperationException();
        }
        return addView('u', first, second);
    }

    int sum(int source, int group, int column) {
        needColumn(source, group);
        needColumn(source, column);
        return addView('g', source, source, group, column);
    }

    int relations() {
        return nodes.size();
    }

    int columns(int relation) {
        need(relation(relation));
        return width(relation);
    }

    int rows(int relation) {
        need(relation(relation));
        return show(relation).size();
    }

    int cell(int relation, int row, int column) {
        needColumn(relation, column);
        List<List<Long>> rows = show(relation);
        if (row < 0 || row >= rows.size()) {
            throw new NoSuchElementException();
        }
        return number(rows.get(row).get(column));
    }

    int nulls(int relation, int column) {
        needColumn(relation, column);
        return Collections.frequency(column(relation, column), null);
    }

    int doubles(int relation, int column) {
        needColumn(relation, column);
        List<Long> numbers = column(relation, column);
        numbers.removeIf(number -> number == null);
        return numbers.size() - new TreeSet<>(numbers).size();
    }

    char effect(int table, int column, int relation, int other) {
        needColumn(table, column);
        needColumn(relation, other);
        table(table);
        return effectOf(table * 10 + column, relation, other);
    }

    boolean changes(int table, int row, int column, int value, int relation, int other) {
        need(relation(table));
        needColumn(relation, other);
        needCell(table, row, column);
        List<Long> changed = settable(table, row, column, value);
        List<Long> without = column(relation, other);
        Long before = changed.set(column, value == -1 ? null : (Long) (long) value);
        try {
            return !without.equals(column(relation, other));
        } finally {
            changed.set(column, before);
        }
    }

    int values(int relation, int column) {
        needColumn(relation, column);
        return origins(relation, column).size();
    }

    int controls(int relation) {
        need(relation(relation));
        return deciders(relation).size();
    }

    int firstTable(int relation, int column) {
        needColumn(relation, column);
        return origins(relation, column).first() / 10;
    }

    int firstColumn(int relation, int column) {
        needColumn(relation, column);
        return origins(relation, column).first() % 10;
    }

    boolean isNeverNull(int relation, int column) {
        needColumn(relation, column);
        Node node = nodes.get(relation);
        int left = width(node.a);
        switch (node.kind) {
            case 't': return !node.nullable.get(column);
            case 's': return isNeverNull(node.a, column);
            case 'p': return isNeverNull(node.a, node.told[column]);
            case 'f': return column == node.told[0] || isNeverNull(node.a, column);
            case 'u': return isNeverNull(node.a, column) && isNeverNull(node.b, column);
            case 'g': return isNeverNull(node.a, node.told[column]);
            default:
        }
        if (!node.outer && (column == node.told[0] || column == left + node.told[1])) {
            return true;
        }
        return column < left ? isNeverNull(node.a, column) : !node.outer && isNeverNull(node.b, column - left);
    }

    boolean isNeverTwice(int relation, int column) {
        needColumn(relation, column);
        Node node = nodes.get(relation);
        int left = width(node.a);
        switch (node.kind) {
            case 't': return column == 0;
            case 's': case 'f': return isNeverTwice(node.a, column);
            case 'p': return isNeverTwice(node.a, node.told[column]);
            case 'u': return false;
            case 'g': return column == 0;
            default:
        }
        return column < left ? isNeverTwice(node.a, column) && isNeverTwice(node.b, node.told[1])
            : isNeverTwice(node.b, column - left) && isNeverTwice(node.a, node.told[0]);
    }

    int users(int relation) {
        need(relation(relation));
        Set<Integer> found = new TreeSet<>();
        found.add(relation);
        for (int r = 0; r < nodes.size(); r++) {
            if (nodes.get(r).kind != 't' && (found.contains(nodes.get(r).a) || found.contains(nodes.get(r).b))) {
                found.add(r);
            }
        }
        return found.size() - 1;
    }

    float affectedShare(int table, int column) {
        needColumn(table, column);
        table(table);
        float affected = 0;
        float all = 0;
        for (int r = 0; r < nodes.size(); r++) {
            for (int c = 0; c < width(r) && nodes.get(r).kind != 't'; c++) {
                all++;
                affected += effectOf(table * 10 + column, r, c) == 'n' ? 0 : 1;
            }
        }
        if (all == 0) {
            throw new ArithmeticException();
        }
        return affected / all;
    }

    double meanValues(int relation) {
        need(relation(relation));
        double all = 0;
        for (int column = 0; column < width(relation); column++) {
            all += origins(relation, column).size();
        }
        return all / width(relation);
    }

    private int add(Node node) {
        if (nodes.size() == 10) {
            throw new IllegalStateException();
        }
        nodes.add(node);
        return nodes.size() - 1;
    }

    private int addView(char kind, int a, int b, int... told) {
        Node node = new Node();
        node.kind = kind;
        node.a = a;
        node.b = b;
        node.told = told;
        return add(node);
    }

    private static void need(boolean isThere) {
        if (!isThere) {
            throw new IndexOutOfBoundsException();
        }
    }

    private boolean relation(int relation) {
        return relation >= 0 && relation < nodes.size();
    }

    private void needColumn(int relation, int column) {
        need(relation(relation) && column >= 0 && column < width(relation));
    }

    private Node table(int table) {
        if (nodes.get(table).kind != 't') {
            throw new IllegalArgumentException();
        }
        return nodes.get(table);
    }

    private static int number(Long number) {
        return number == null ? -1 : Math.toIntExact(number);
    }

    private int width(int relation) {
        Node node = nodes.get(relation);
        switch (node.kind) {
            case 't': return node.nullable.size();
            case 'p': return node.told.length;
            case 'j': return width(node.a) + width(node.b);
            case 'g': return 2;
            default: return width(node.a);
        }
    }

    private List<Long> column(int relation, int column) {
        List<Long> numbers = new ArrayList<>();
        for (List<Long> row : show(relation)) {
            numbers.add(row.get(column));
        }
        return numbers;
    }

    private List<List<Long>> show(int relation) {
        Node node = nodes.get(relation);
        List<List<Long>> found = node.kind == 't' ? node.rows : view(node, show(node.a), show(node.b));
        if (found.size() > 64) {
            throw new IllegalStateException();
        }
        return found;
    }

    private List<List<Long>> view(Node node, List<List<Long>> a, List<List<Long>> b) {
        List<List<Long>> found = new ArrayList<>();
        if (node.kind == 'g') {
            return groups(node, a);
        }
        for (List<Long> row : a) {
            if (node.kind == 's' || node.kind == 'u') {
                found.add(row);
            } else if (node.kind == 'p') {
                List<Long> picked = new ArrayList<>();
                for (int column : node.told) {
                    picked.add(row.get(column));
                }
                found.add(picked);
            } else if (node.kind == 'f') {
                Long number = row.get(node.told[0]);
                if (number != null && number >= node.told[1]) {
                    found.add(row);
                }
            } else {
                found.addAll(matches(node, row, b));
            }
        }
        if (node.kind == 'u') {
            found.addAll(b);
        }
        return found;
    }

    private List<List<Long>> matches(Node node, List<Long> row, List<List<Long>> b) {
        List<List<Long>> found = new ArrayList<>();
        for (List<Long> other : b) {
            Long number = row.get(node.told[0]);
            if (number != null && number.equals(other.get(node.told[1]))) {
                List<Long> both = new ArrayList<>(row);
                both.addAll(other);
                found.add(both);
            }
        }
        if (found.isEmpty() && node.outer) {
            List<Long> alone = new ArrayList<>(row);
            alone.addAll(Collections.nCopies(width(node.b), null));
            found.add(alone);
        }
        return found;
    }

    private static List<List<Long>> groups(Node node, List<List<Long>> a) {
        TreeMap<Long, Long> sums = new TreeMap<>();
        for (List<Long> row : a) {
            Long group = row.get(node.told[0]);
            long key = group == null ? Long.MAX_VALUE : group;
            Long added = row.get(node.told[1]);
            Long before = sums.get(key);
            sums.put(key, before == null ? added : added == null ? before : (Long) (before + added));
        }
        List<List<Long>> found = new ArrayList<>();
        for (Long key : sums.keySet()) {
            List<Long> row = new ArrayList<>();
            row.add(key == Long.MAX_VALUE ? null : key);
            row.add(sums.get(key));
            found.add(row);
        }
        return found;
    }

    private char effectOf(int cause, int relation, int other) {
        return origins(relation, other).contains(cause) ? 'v' : deciders(relation).contains(cause) ? 'c' : 'n';
    }

    /** Columns of tables, each one as ten times its table and its number. */
    private TreeSet<Integer> origins(int relation, int column) {
        Node node = nodes.get(relation);
        TreeSet<Integer> found = new TreeSet<>();
        if (node.kind == 't') {
            found.add(relation * 10 + column);
        } else if (node.kind == 'p' || node.kind == 'g') {
            found.addAll(origins(node.a, node.told[column]));
        } else if (node.kind == 'j' && column >= width(node.a)) {
            found.addAll(origins(node.b, column - width(node.a)));
        } else {
            found.addAll(origins(node.a, column));
        }
        if (node.kind == 'u') {
            found.addAll(origins(node.b, column));
        }
        return found;
    }

    private TreeSet<Integer> deciders(int relation) {
        Node node = nodes.get(relation);
        TreeSet<Integer> found = new TreeSet<>();
        if (node.kind != 't') {
            found.addAll(deciders(node.a));
            found.addAll(deciders(node.b));
        }
        if (node.kind == 'f' || node.kind == 'j' || node.kind == 'g') {
            found.addAll(origins(node.a, node.told[0]));
        }
        if (node.kind == 'j') {
            found.addAll(origins(node.b, node.told[1]));
        }
        return found;
    }
}
