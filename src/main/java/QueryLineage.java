import java.util.NoSuchElementException;

/** A catalogue of tables and views that traces where the columns of the views come from. */
public final class QueryLineage {
    private static final int MAX_RELATIONS = 10;
    private static final int MAX_COLUMNS = 8;
    private static final int MAX_ROWS = 64;
    private static final int MAX_TABLE_COLUMNS = 5;
    private static final int MAX_TABLE_ROWS = 4;
    private static final int MAX_NUMBER = 99;
    private static final int MAX_ORIGINS = MAX_RELATIONS * MAX_TABLE_COLUMNS;
    private static final int NOTHING = -1;
    private static final int NO_ROW = -1;
    private static final int NO_COLUMN = -1;
    private static final int KEY = 0;

    private final Relation[] catalogue = new Relation[MAX_RELATIONS];
    private final int[] keptNumbers = new int[MAX_ROWS];
    private int count = 0;

    public QueryLineage() {
    }

    // ---- tables

    public int addTable() throws IllegalStateException {
        requireRoom();
        return enter(new Table(count));
    }

    public int addColumn(int table, boolean isNullable) throws IndexOutOfBoundsException, IllegalArgumentException, IllegalStateException, UnsupportedOperationException {
        Table widened = tableOf(existing(table));
        if (widened.width >= MAX_TABLE_COLUMNS) {
            throw new IllegalStateException("4 columns were added to the table");
        }
        if (isGrowthRefused(widened)) {
            throw new UnsupportedOperationException("a view does not allow the column");
        }
        widened.widen(isNullable);
        traceAll();
        return widened.width;
    }

    public int addRow(int table) throws IndexOutOfBoundsException, IllegalArgumentException, IllegalStateException {
        Table lengthened = tableOf(existing(table));
        if (lengthened.height >= MAX_TABLE_ROWS) {
            throw new IllegalStateException("the table has 4 rows");
        }
        return lengthened.lengthen();
    }

    public int set(int table, int row, int column, int value) throws IndexOutOfBoundsException, IllegalArgumentException, UnsupportedOperationException {
        Relation asked = existing(table);
        requireCell(asked, row, column);
        Table changed = tableOf(asked);
        requireNumber(changed, row, column, value);
        int before = changed.at(row, column);
        changed.put(row, column, value);
        return before;
    }

    // ---- views

    public int star(int source) throws IndexOutOfBoundsException, IllegalStateException {
        Relation starred = existing(source);
        requireRoom();
        return enter(new Star(count, starred));
    }

    public int pick(int source, int first, int second, int third) throws IndexOutOfBoundsException, IllegalArgumentException, IllegalStateException {
        Relation picked = withColumn(source, first);
        requireColumnOrNone(picked, second);
        requireColumnOrNone(picked, third);
        if (second == NO_COLUMN && third != NO_COLUMN) {
            throw new IllegalArgumentException("a third column without a second one");
        }
        requireRoom();
        return enter(new Pick(count, picked, first, second, third));
    }

    public int filter(int source, int column, int least) throws IndexOutOfBoundsException, IllegalArgumentException, IllegalStateException {
        Relation filtered = withColumn(source, column);
        if (least < 0 || least > MAX_NUMBER) {
            throw new IllegalArgumentException("the number is out of range");
        }
        requireRoom();
        return enter(new Filter(count, filtered, column, least));
    }

    public int join(int first, int second, int firstColumn, int secondColumn, boolean isOuter) throws IndexOutOfBoundsException, UnsupportedOperationException, IllegalStateException {
        Relation left = withColumn(first, firstColumn);
        Relation right = withColumn(second, secondColumn);
        if (left.width + right.width > MAX_COLUMNS) {
            throw new UnsupportedOperationException("a join of more than 8 columns");
        }
        requireRoom();
        return enter(new Join(count, left, right, firstColumn, secondColumn, isOuter));
    }

    public int union(int first, int second) throws IndexOutOfBoundsException, UnsupportedOperationException, IllegalStateException {
        Relation upper = existing(first);
        Relation lower = existing(second);
        if (upper.width != lower.width) {
            throw new UnsupportedOperationException("a union of unlike numbers of columns");
        }
        requireRoom();
        return enter(new Union(count, upper, lower));
    }

    public int sum(int source, int group, int column) throws IndexOutOfBoundsException, IllegalStateException {
        Relation summed = withColumn(source, group);
        requireColumn(summed, column);
        requireRoom();
        return enter(new Sum(count, summed, group, column));
    }

    // ---- what relations show

    public int relations() {
        return count;
    }

    public int columns(int relation) throws IndexOutOfBoundsException {
        return existing(relation).width;
    }

    public int rows(int relation) throws IndexOutOfBoundsException, IllegalStateException {
        Relation asked = existing(relation);
        requireRows(asked);
        return asked.height;
    }

    public int cell(int relation, int row, int column) throws IndexOutOfBoundsException, IllegalStateException, NoSuchElementException {
        Relation asked = withColumn(relation, column);
        requireRows(asked);
        if (!asked.hasRow(row)) {
            throw new NoSuchElementException("no such row");
        }
        return asked.at(row, column);
    }

    public int nulls(int relation, int column) throws IndexOutOfBoundsException, IllegalStateException {
        Relation asked = withColumn(relation, column);
        requireRows(asked);
        return asked.countNothing(column);
    }

    public int doubles(int relation, int column) throws IndexOutOfBoundsException, IllegalStateException {
        Relation asked = withColumn(relation, column);
        requireRows(asked);
        return asked.countRepeated(column);
    }

    // ---- traces

    public char effect(int table, int column, int relation, int other) throws IndexOutOfBoundsException, IllegalArgumentException {
        Relation asked = withColumn(table, column);
        Relation traced = withColumn(relation, other);
        return traced.effectOf(tableOf(asked).own(column), other);
    }

    public boolean changes(int table, int row, int column, int value, int relation, int other) throws IndexOutOfBoundsException, IllegalArgumentException, UnsupportedOperationException, IllegalStateException {
        Relation asked = existing(table);
        Relation watched = withColumn(relation, other);
        requireCell(asked, row, column);
        Table changed = tableOf(asked);
        requireNumber(changed, row, column, value);
        requireRows(watched);
        return wouldChange(changed, row, column, value, watched, other);
    }

    public int values(int relation, int column) throws IndexOutOfBoundsException {
        return Long.bitCount(withColumn(relation, column).origin(column));
    }

    public int controls(int relation) throws IndexOutOfBoundsException {
        return Long.bitCount(existing(relation).deciders);
    }

    public int firstTable(int relation, int column) throws IndexOutOfBoundsException {
        return lowest(withColumn(relation, column).origin(column)) / MAX_TABLE_COLUMNS;
    }

    public int firstColumn(int relation, int column) throws IndexOutOfBoundsException {
        return lowest(withColumn(relation, column).origin(column)) % MAX_TABLE_COLUMNS;
    }

    public boolean isNeverNull(int relation, int column) throws IndexOutOfBoundsException {
        return withColumn(relation, column).isFilled(column);
    }

    public boolean isNeverTwice(int relation, int column) throws IndexOutOfBoundsException {
        return withColumn(relation, column).isUnique(column);
    }

    public int users(int relation) throws IndexOutOfBoundsException {
        Relation used = existing(relation);
        int found = 0;
        for (int number = 0; number < count; number++) {
            if (find(number) instanceof View user && contains(user.ancestors, used)) {
                found++;
            }
        }
        return found;
    }

    public float affectedShare(int table, int column) throws IndexOutOfBoundsException, IllegalArgumentException, ArithmeticException {
        long cause = tableOf(withColumn(table, column)).own(column);
        int affected = 0;
        int all = 0;
        for (int number = 0; number < count; number++) {
            if (find(number) instanceof View view) {
                affected += view.countAffected(cause);
                all += view.width;
            }
        }
        if (all == 0) {
            throw new ArithmeticException("there are no views");
        }
        return (float) affected / (float) all;
    }

    public double meanValues(int relation) throws IndexOutOfBoundsException {
        Relation asked = existing(relation);
        int origins = 0;
        for (int column = 0; column < asked.width; column++) {
            origins += Long.bitCount(asked.origin(column));
        }
        return asked.width > 0 ? (double) origins / (double) asked.width : 0.0;
    }

    // ---- what calls require

    private void requireRoom() {
        if (count >= MAX_RELATIONS) {
            throw new IllegalStateException("there are 10 relations");
        }
    }

    private Relation existing(int relation) {
        Relation found = find(relation);
        if (found == null) {
            throw new IndexOutOfBoundsException("no such relation");
        }
        return found;
    }

    private Relation withColumn(int relation, int column) {
        Relation found = existing(relation);
        requireColumn(found, column);
        return found;
    }

    private static void requireColumn(Relation asked, int column) {
        if (!asked.hasColumn(column)) {
            throw new IndexOutOfBoundsException("no such column");
        }
    }

    private static void requireColumnOrNone(Relation asked, int column) {
        if (column != NO_COLUMN) {
            requireColumn(asked, column);
        }
    }

    /** Passes for any view: that it is none is asked for later, with another exception. */
    private static void requireCell(Relation asked, int row, int column) {
        if (asked instanceof Table && !(asked.hasRow(row) && asked.hasColumn(column))) {
            throw new IndexOutOfBoundsException("no such row or column");
        }
    }

    private static Table tableOf(Relation asked) {
        if (asked instanceof Table table) {
            return table;
        }
        throw new IllegalArgumentException("the relation is a view");
    }

    private static void requireNumber(Table changed, int row, int column, int value) {
        if (!changed.takes(column, value)) {
            throw new IllegalArgumentException("the number is out of range for the column");
        }
        if (column == KEY && changed.hasOtherKey(row, value)) {
            throw new UnsupportedOperationException("another row has this key");
        }
    }

    private void requireRows(Relation asked) {
        if (!run(asked)) {
            throw new IllegalStateException("more than 64 rows");
        }
    }

    // ---- the catalogue

    private Relation find(int number) {
        if (number < 0 || number >= count || number >= MAX_RELATIONS) {
            return null;
        }
        return catalogue[number];
    }

    private int enter(Relation added) {
        if (count < MAX_RELATIONS) {
            catalogue[count] = added;
            count++;
            added.trace();
        }
        return added.number;
    }

    private void traceAll() {
        for (int number = 0; number < count; number++) {
            Relation traced = find(number);
            if (traced != null) {
                traced.trace();
            }
        }
    }

    /** Sources stand before their views, so that one pass in order meets each view after its sources. */
    private boolean isGrowthRefused(Table widened) {
        int growing = 1 << widened.number;
        for (int number = widened.number + 1; number < count; number++) {
            if (find(number) instanceof View user) {
                if (user.refusesGrowth(growing)) {
                    return true;
                }
                growing |= user.growsWith(growing) ? 1 << number : 0;
            }
        }
        return false;
    }

    /** Finds the rows of a relation anew; tells whether they can be asked for. */
    private boolean run(Relation asked) {
        for (int number = 0; number <= asked.number; number++) {
            if (find(number) instanceof View view && view.reopen()) {
                view.show();
            }
        }
        return !asked.tooMany;
    }

    private boolean wouldChange(Table changed, int row, int column, int value, Relation watched, int other) {
        int keptHeight = keep(watched, other);
        int before = changed.at(row, column);
        changed.put(row, column, value);
        boolean canAsk = run(watched);
        boolean isOther = differs(watched, other, keptHeight);
        changed.put(row, column, before);
        if (!canAsk) {
            throw new IllegalStateException("more than 64 rows with the number");
        }
        return isOther;
    }

    private int keep(Relation watched, int column) {
        for (int row = 0; row < watched.height && row < MAX_ROWS; row++) {
            keptNumbers[row] = watched.at(row, column);
        }
        return watched.height;
    }

    private boolean differs(Relation watched, int column, int keptHeight) {
        if (watched.height != keptHeight) {
            return true;
        }
        for (int row = 0; row < keptHeight && row < MAX_ROWS; row++) {
            if (keptNumbers[row] != watched.at(row, column)) {
                return true;
            }
        }
        return false;
    }

    // ---- sets held as the bits of a number

    private static boolean contains(int relationNumbers, Relation asked) {
        return (relationNumbers >> asked.number & 1) != 0;
    }

    private static int lowest(long origins) {
        for (int origin = 0; origin < MAX_ORIGINS; origin++) {
            if ((origins >> origin & 1L) != 0L) {
                return origin;
            }
        }
        return 0;
    }

    // ---- relations

    /** Columns with what is known of them, and the rows that were found last. */
    private abstract static class Relation {
        final int number;
        int width = 0;
        int height = 0;
        boolean tooMany = false;
        /** The bits of the columns of tables that are its controls. */
        long deciders = 0L;
        private final int[] numbers = new int[MAX_ROWS * MAX_COLUMNS];
        /** For each column, the bits of the columns of tables from which it has its values. */
        private final long[] origins = new long[MAX_COLUMNS];
        private int filledColumns = 0;
        private int uniqueColumns = 0;

        Relation(int number) {
            this.number = number;
        }

        /** Finds the columns and their traces from those of the sources. */
        abstract void trace();

        final boolean hasColumn(int column) {
            return column >= 0 && column < width && column < MAX_COLUMNS;
        }

        final boolean hasRow(int row) {
            return row >= 0 && row < height && row < MAX_ROWS;
        }

        final int at(int row, int column) {
            int place = row * MAX_COLUMNS + column;
            if (row < 0 || row >= height || column < 0 || column >= width || place < 0 || place >= numbers.length) {
                return NOTHING;
            }
            return numbers[place];
        }

        final void put(int row, int column, int value) {
            int place = row * MAX_COLUMNS + column;
            if (row < 0 || row >= height || column < 0 || column >= width || place < 0 || place >= numbers.length) {
                return;
            }
            numbers[place] = value;
        }

        final void appendColumn(long origin, boolean isFilled, boolean isUnique) {
            if (width >= MAX_COLUMNS) {
                return;
            }
            int bit = 1 << width;
            origins[width] = origin;
            filledColumns = isFilled ? filledColumns | bit : filledColumns & ~bit;
            uniqueColumns = isUnique ? uniqueColumns | bit : uniqueColumns & ~bit;
            width++;
        }

        /** Answers NO_ROW, on which put does nothing, if there would be too many. */
        final int appendRow() {
            if (height >= MAX_ROWS) {
                tooMany = true;
                return NO_ROW;
            }
            height++;
            return height - 1;
        }

        final long origin(int column) {
            return hasColumn(column) ? origins[column] : 0L;
        }

        final boolean isFilled(int column) {
            return hasColumn(column) && (filledColumns >> column & 1) != 0;
        }

        final boolean isUnique(int column) {
            return hasColumn(column) && (uniqueColumns >> column & 1) != 0;
        }

        final char effectOf(long cause, int column) {
            if ((origin(column) & cause) != 0L) {
                return 'v';
            }
            return (deciders & cause) != 0L ? 'c' : 'n';
        }

        final int countAffected(long cause) {
            int affected = 0;
            for (int column = 0; column < width; column++) {
                if (effectOf(cause, column) != 'n') {
                    affected++;
                }
            }
            return affected;
        }

        final int countNothing(int column) {
            int found = 0;
            for (int row = 0; row < height; row++) {
                if (at(row, column) == NOTHING) {
                    found++;
                }
            }
            return found;
        }

        final int countRepeated(int column) {
            int found = 0;
            for (int row = 0; row < height; row++) {
                int value = at(row, column);
                if (value != NOTHING && isAbove(row, column, value)) {
                    found++;
                }
            }
            return found;
        }

        private boolean isAbove(int end, int column, int value) {
            for (int row = 0; row < end; row++) {
                if (at(row, column) == value) {
                    return true;
                }
            }
            return false;
        }
    }

    private static final class Table extends Relation {
        private int nullableColumns = 0;

        Table(int number) {
            super(number);
            width = 1;
        }

        void trace() {
            int columnsToTrace = width;
            width = 0;
            for (int column = 0; column < columnsToTrace; column++) {
                appendColumn(own(column), !isNullable(column), column == KEY);
            }
        }

        /** The bit of one of its columns, in the sets of columns of tables. */
        long own(int column) {
            return 1L << (number * MAX_TABLE_COLUMNS + column);
        }

        boolean isNullable(int column) {
            return (nullableColumns >> column & 1) != 0;
        }

        void widen(boolean isNullable) {
            if (width >= MAX_TABLE_COLUMNS) {
                return;
            }
            if (isNullable) {
                nullableColumns |= 1 << width;
            }
            width++;
            for (int row = 0; row < height; row++) {
                clear(row, width - 1);
            }
        }

        int lengthen() {
            int key = freeKey();
            int row = appendRow();
            put(row, KEY, key);
            for (int column = KEY + 1; column < width; column++) {
                clear(row, column);
            }
            return row;
        }

        private void clear(int row, int column) {
            put(row, column, isNullable(column) ? NOTHING : 0);
        }

        /** The last number that is tried is free for sure: there are fewer rows than numbers tried. */
        private int freeKey() {
            int key = 0;
            while (key < MAX_TABLE_ROWS && hasOtherKey(NO_ROW, key)) {
                key++;
            }
            return key;
        }

        boolean takes(int column, int value) {
            if (value == NOTHING) {
                return isNullable(column);
            }
            return value >= 0 && value <= MAX_NUMBER;
        }

        boolean hasOtherKey(int row, int key) {
            for (int other = 0; other < height; other++) {
                if (other != row && at(other, KEY) == key) {
                    return true;
                }
            }
            return false;
        }
    }

    /** A view of one source has it as both, so that both can be asked in all views alike. */
    private abstract static class View extends Relation {
        final Relation first;
        final Relation second;
        /** The bits of the relations from which this one is found. */
        int ancestors = 0;

        View(int number, Relation first, Relation second) {
            super(number);
            this.first = first;
            this.second = second;
        }

        abstract void traceColumns();

        /** Finds the rows, if reopen has told that there are any to be found. */
        abstract void show();

        /** Whether this one has one more column if those of the set have. */
        abstract boolean growsWith(int growing);

        /** Whether this one could not be made any more if those of the set had one more column. */
        boolean breaksWith(int growing) {
            return false;
        }

        final boolean refusesGrowth(int growing) {
            return breaksWith(growing) || width >= MAX_COLUMNS && growsWith(growing);
        }

        final void trace() {
            width = 0;
            ancestors = withAncestors(first) | withAncestors(second);
            deciders = first.deciders | second.deciders;
            traceColumns();
        }

        private static int withAncestors(Relation source) {
            int own = 1 << source.number;
            return source instanceof View view ? view.ancestors | own : own;
        }

        final boolean reopen() {
            height = 0;
            tooMany = first.tooMany || second.tooMany;
            return !tooMany;
        }

        final void traceLike(Relation source, int column) {
            appendColumn(source.origin(column), source.isFilled(column), source.isUnique(column));
        }

        final void copyRow(Relation source, int row) {
            copyInto(appendRow(), source, row, 0);
        }

        final void copyInto(int target, Relation source, int row, int offset) {
            for (int column = 0; column < source.width; column++) {
                put(target, offset + column, source.at(row, column));
            }
        }
    }

    private static final class Star extends View {
        Star(int number, Relation source) {
            super(number, source, source);
        }

        void traceColumns() {
            for (int column = 0; column < first.width; column++) {
                traceLike(first, column);
            }
        }

        void show() {
            for (int row = 0; row < first.height; row++) {
                copyRow(first, row);
            }
        }

        boolean growsWith(int growing) {
            return contains(growing, first);
        }
    }

    private static final class Pick extends View {
        private final int firstPicked;
        private final int secondPicked;
        private final int thirdPicked;

        Pick(int number, Relation source, int firstPicked, int secondPicked, int thirdPicked) {
            super(number, source, source);
            this.firstPicked = firstPicked;
            this.secondPicked = secondPicked;
            this.thirdPicked = thirdPicked;
        }

        void traceColumns() {
            traceLike(first, firstPicked);
            if (secondPicked != NO_COLUMN) {
                traceLike(first, secondPicked);
            }
            if (thirdPicked != NO_COLUMN) {
                traceLike(first, thirdPicked);
            }
        }

        /** Columns that are not picked are not columns here either, so that put passes them over. */
        void show() {
            for (int row = 0; row < first.height; row++) {
                int target = appendRow();
                put(target, 0, first.at(row, firstPicked));
                put(target, 1, first.at(row, secondPicked));
                put(target, 2, first.at(row, thirdPicked));
            }
        }

        boolean growsWith(int growing) {
            return false;
        }
    }

    private static final class Filter extends View {
        private final int toldColumn;
        private final int least;

        Filter(int number, Relation source, int toldColumn, int least) {
            super(number, source, source);
            this.toldColumn = toldColumn;
            this.least = least;
        }

        void traceColumns() {
            deciders |= first.origin(toldColumn);
            for (int column = 0; column < first.width; column++) {
                boolean isFilled = first.isFilled(column) || column == toldColumn;
                appendColumn(first.origin(column), isFilled, first.isUnique(column));
            }
        }

        void show() {
            for (int row = 0; row < first.height; row++) {
                int value = first.at(row, toldColumn);
                if (value != NOTHING && value >= least) {
                    copyRow(first, row);
                }
            }
        }

        boolean growsWith(int growing) {
            return contains(growing, first);
        }
    }

    private static final class Join extends View {
        private final int firstTold;
        private final int secondTold;
        private final boolean isOuter;

        Join(int number, Relation first, Relation second, int firstTold, int secondTold, boolean isOuter) {
            super(number, first, second);
            this.firstTold = firstTold;
            this.secondTold = secondTold;
            this.isOuter = isOuter;
        }

        void traceColumns() {
            deciders |= first.origin(firstTold) | second.origin(secondTold);
            for (int column = 0; column < first.width; column++) {
                boolean isFilled = first.isFilled(column) || !isOuter && column == firstTold;
                boolean isUnique = first.isUnique(column) && second.isUnique(secondTold);
                appendColumn(first.origin(column), isFilled, isUnique);
            }
            for (int column = 0; column < second.width; column++) {
                boolean isFilled = !isOuter && (second.isFilled(column) || column == secondTold);
                boolean isUnique = second.isUnique(column) && first.isUnique(firstTold);
                appendColumn(second.origin(column), isFilled, isUnique);
            }
        }

        void show() {
            for (int row = 0; row < first.height && !tooMany; row++) {
                int value = first.at(row, firstTold);
                boolean isAlone = true;
                for (int other = 0; other < second.height && value != NOTHING && !tooMany; other++) {
                    if (second.at(other, secondTold) == value) {
                        appendPair(row, other);
                        isAlone = false;
                    }
                }
                if (isOuter && isAlone) {
                    appendPair(row, NO_ROW);
                }
            }
        }

        /** Nothing is what NO_ROW of the second source has in all columns. */
        private void appendPair(int row, int other) {
            int target = appendRow();
            copyInto(target, first, row, 0);
            copyInto(target, second, other, first.width);
        }

        boolean growsWith(int growing) {
            return contains(growing, second);
        }

        boolean breaksWith(int growing) {
            return contains(growing, first);
        }
    }

    private static final class Union extends View {
        Union(int number, Relation first, Relation second) {
            super(number, first, second);
        }

        void traceColumns() {
            for (int column = 0; column < first.width; column++) {
                boolean isFilled = first.isFilled(column) && second.isFilled(column);
                appendColumn(first.origin(column) | second.origin(column), isFilled, false);
            }
        }

        void show() {
            for (int row = 0; row < first.height; row++) {
                copyRow(first, row);
            }
            for (int row = 0; row < second.height; row++) {
                copyRow(second, row);
            }
        }

        boolean growsWith(int growing) {
            return contains(growing, first) && contains(growing, second);
        }

        boolean breaksWith(int growing) {
            return contains(growing, first) != contains(growing, second);
        }
    }

    private static final class Sum extends View {
        private final int group;
        private final int summed;

        Sum(int number, Relation source, int group, int summed) {
            super(number, source, source);
            this.group = group;
            this.summed = summed;
        }

        void traceColumns() {
            deciders |= first.origin(group);
            appendColumn(first.origin(group), first.isFilled(group), true);
            appendColumn(first.origin(summed), first.isFilled(summed), false);
        }

        /** There are no more groups than rows, so that as many rounds as rows find them all. */
        void show() {
            int value = groupAfter(NOTHING);
            for (int round = 0; round < first.height && value != NOTHING; round++) {
                appendGroup(value);
                value = groupAfter(value);
            }
            if (first.countNothing(group) > 0) {
                appendGroup(NOTHING);
            }
        }

        private int groupAfter(int before) {
            int next = NOTHING;
            for (int row = 0; row < first.height; row++) {
                int value = first.at(row, group);
                if (value > before && (next == NOTHING || value < next)) {
                    next = value;
                }
            }
            return next;
        }

        private void appendGroup(int value) {
            int target = appendRow();
            put(target, 0, value);
            put(target, 1, total(value));
        }

        private int total(int value) {
            int total = NOTHING;
            for (int row = 0; row < first.height; row++) {
                int added = first.at(row, summed);
                if (first.at(row, group) == value && added != NOTHING) {
                    total = total == NOTHING ? added : total + added;
                }
            }
            return total;
        }

        boolean growsWith(int growing) {
            return false;
        }
    }
}
