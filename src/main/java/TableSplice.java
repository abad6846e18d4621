import java.util.Arrays;

/**
 * A three-way merger of tables: a base and two sides that were made from it, in which rows and
 * columns came, went and changed; the merged table has what one side changed, and a list tells
 * where both sides are at odds.
 */
public final class TableSplice {
    public static final int NONE = -1;
    public static final int BASE = 0, OURS = 1, THEIRS = 2, MERGED = 3;

    private static final int COLUMN_COUNT = 8;
    private static final int ROW_COUNT = 24;
    private static final int LARGEST_NAME = 99;
    private static final int LARGEST_VALUE = 9999;

    private static final int RULE_CONFLICT = 0, RULE_GREATER = 2, RULE_SUM = 3;

    private static final int CELL_AT_ODDS = 1;
    private static final int ROW_AT_ODDS = 2;
    private static final int COLUMN_AT_ODDS = 3;
    private static final int NAME_AT_ODDS = 4;
    private static final int NAME_TWICE = 5;
    private static final int NO_SUCH_ROW = 6;

    private final Table base = new Table();
    private final Table ours = new Table();
    private final Table theirs = new Table();
    private final Table merged = new Table();
    private final int[] rules = new int[COLUMN_COUNT];
    private final boolean[] references = new boolean[COLUMN_COUNT];
    private final ConflictList list = new ConflictList();
    private boolean fresh = false;

    public TableSplice() {
    }

    // ---- filling the base and the sides: eight calls that fill or set

    public int addColumn(int table, int column, int name)
            throws IndexOutOfBoundsException, IllegalArgumentException, IllegalStateException {
        Table filled = tableToFill(table);
        requireColumnNumber(column);
        requireName(name);
        if (filled.hasColumn(column)) {
            throw new IllegalStateException("the table has the column");
        }
        filled.putColumn(column, name);
        fresh = false;
        return filled.columnCount();
    }

    public int dropColumn(int table, int column) throws IndexOutOfBoundsException {
        Table filled = tableToFill(table);
        requireColumnOf(filled, column);
        int before = filled.nameAt(column);
        filled.cutColumn(column);
        fresh = false;
        return before;
    }

    public int rename(int table, int column, int name)
            throws IndexOutOfBoundsException, IllegalArgumentException {
        Table filled = tableToFill(table);
        requireColumnOf(filled, column);
        requireName(name);
        int before = filled.nameAt(column);
        filled.putName(column, name);
        fresh = false;
        return before;
    }

    public int addRow(int table, int key) throws IndexOutOfBoundsException, IllegalStateException {
        Table filled = tableToFill(table);
        requireKey(key);
        if (filled.hasRow(key)) {
            throw new IllegalStateException("the table has the row");
        }
        filled.putRow(key);
        fresh = false;
        return filled.rowCount();
    }

    public int removeRow(int table, int key) throws IndexOutOfBoundsException {
        Table filled = tableToFill(table);
        requireRowOf(filled, key);
        filled.cutRow(key);
        fresh = false;
        return filled.rowCount();
    }

    public int set(int table, int key, int column, int value)
            throws IndexOutOfBoundsException, IllegalArgumentException {
        Table filled = tableToFill(table);
        requireRowOf(filled, key);
        requireColumnOf(filled, column);
        if (value < -LARGEST_VALUE || value > LARGEST_VALUE) {
            throw new IllegalArgumentException("the value is out of range");
        }
        int before = filled.cellAt(key, column);
        filled.putCell(key, column, value);
        fresh = false;
        return before;
    }

    public int setRule(int column, int rule)
            throws IndexOutOfBoundsException, IllegalArgumentException {
        requireColumnNumber(column);
        if (rule < RULE_CONFLICT || rule > RULE_SUM) {
            throw new IllegalArgumentException("the rule is out of range");
        }
        int before = rules[column];
        rules[column] = rule;
        fresh = false;
        return before;
    }

    public boolean setReference(int column, boolean isReference) throws IndexOutOfBoundsException {
        requireColumnNumber(column);
        boolean before = references[column];
        references[column] = isReference;
        // a call that changes nothing succeeds too, and the list is fresh only until a success
        fresh = false;
        return before != isReference;
    }

    // ---- what a table has

    public int columns(int table) throws IndexOutOfBoundsException {
        return tableToRead(table).columnSet;
    }

    public int rows(int table) throws IndexOutOfBoundsException {
        return tableToRead(table).rowSet;
    }

    public int name(int table, int column) throws IndexOutOfBoundsException {
        Table read = tableToRead(table);
        requireColumnOf(read, column);
        return read.nameAt(column);
    }

    public int get(int table, int key, int column) throws IndexOutOfBoundsException {
        Table read = tableToRead(table);
        requireRowOf(read, key);
        requireColumnOf(read, column);
        return read.cellAt(key, column);
    }

    public int changes(int side) throws IndexOutOfBoundsException {
        return sideTable(side).countChangesFrom(base);
    }

    // ---- forking and merging

    public int fork() {
        ours.becomeLike(base);
        theirs.becomeLike(base);
        merged.becomeEmpty();
        list.becomeEmpty();
        fresh = false;
        return base.cellCount();
    }

    public int merge() {
        merged.becomeEmpty();
        list.becomeEmpty();
        for (int column = 0; column < COLUMN_COUNT; column++) {
            mergeColumn(column);
        }
        for (int key = 0; key < ROW_COUNT; key++) {
            mergeRow(key);
        }
        mergeCells();
        listNamesTwice();
        listReferencesToNoRow();
        fresh = true;
        return list.size;
    }

    public int accept() throws IllegalStateException {
        if (!fresh) {
            throw new IllegalStateException("the list is not fresh");
        }
        if (list.openCount > 0) {
            throw new IllegalStateException("some conflict is not settled");
        }
        base.becomeLike(merged);
        return fork();
    }

    public int cellByChanges(int key, int column) throws IndexOutOfBoundsException {
        requireKey(key);
        requireColumnNumber(column);
        if (!rowStaysByChanges(key) || !columnStaysByChanges(column)) {
            return 0;
        }
        if (!ours.hasCell(key, column) && !theirs.hasCell(key, column)) {
            return 0;
        }
        return rules[column] == RULE_SUM
                ? sumByChanges(key, column)
                : choiceByChanges(key, column, rules[column]);
    }

    // ---- conflicts

    public int conflicts() {
        return list.size;
    }

    public int open() {
        return list.openCount;
    }

    public int kindOf(int place) throws IndexOutOfBoundsException {
        requireConflict(place);
        return list.kindAt(place);
    }

    public int keyOf(int place) throws IndexOutOfBoundsException {
        requireConflict(place);
        return list.keyAt(place);
    }

    public int columnOf(int place) throws IndexOutOfBoundsException {
        requireConflict(place);
        return list.columnAt(place);
    }

    public int settle(int place, int side) throws IndexOutOfBoundsException, IllegalStateException {
        requireConflict(place);
        Table taken = sideTable(side);
        if (!fresh) {
            throw new IllegalStateException("the list is not fresh");
        }
        if (list.isSettled(place)) {
            throw new IllegalStateException("the conflict is settled");
        }
        takeSide(taken, list.kindAt(place), list.keyAt(place), list.columnAt(place));
        list.markSettled(place);
        return list.openCount;
    }

    // ---- what the arguments must be

    private Table tableToRead(int table) {
        switch (table) {
            case BASE:
                return base;
            case OURS:
                return ours;
            case THEIRS:
                return theirs;
            case MERGED:
                return merged;
            default:
                throw new IndexOutOfBoundsException("no such table");
        }
    }

    private Table tableToFill(int table) {
        if (table == MERGED) {
            throw new IndexOutOfBoundsException("the merged table is filled by merging alone");
        }
        return tableToRead(table);
    }

    private Table sideTable(int side) {
        if (side != OURS && side != THEIRS) {
            throw new IndexOutOfBoundsException("no such side");
        }
        return side == OURS ? ours : theirs;
    }

    private static void requireColumnNumber(int column) {
        if (!isColumnNumber(column)) {
            throw new IndexOutOfBoundsException("no such column number");
        }
    }

    private static void requireKey(int key) {
        if (!isKey(key)) {
            throw new IndexOutOfBoundsException("no such key");
        }
    }

    private static void requireColumnOf(Table table, int column) {
        if (!table.hasColumn(column)) {
            throw new IndexOutOfBoundsException("the table does not have the column");
        }
    }

    private static void requireRowOf(Table table, int key) {
        if (!table.hasRow(key)) {
            throw new IndexOutOfBoundsException("the table does not have the row");
        }
    }

    private static void requireName(int name) {
        if (name < 0 || name > LARGEST_NAME) {
            throw new IllegalArgumentException("the name is out of range");
        }
    }

    private void requireConflict(int place) {
        if (!list.holds(place)) {
            throw new IndexOutOfBoundsException("no such conflict");
        }
    }

    private static boolean isColumnNumber(int column) {
        return column >= 0 && column < COLUMN_COUNT;
    }

    private static boolean isKey(int key) {
        return key >= 0 && key < ROW_COUNT;
    }

    // ---- merging columns

    private void mergeColumn(int column) {
        if (!columnStays(column)) {
            return;
        }
        merged.putColumn(column, mergedName(column));
        boolean inBoth = ours.hasColumn(column) && theirs.hasColumn(column);
        if (!inBoth && base.hasColumn(column)) {
            list.append(COLUMN_AT_ODDS, NONE, column);
        }
        if (inBoth && namesAreAtOdds(column)) {
            list.append(NAME_AT_ODDS, NONE, column);
        }
    }

    private boolean columnStays(int column) {
        boolean inOurs = ours.hasColumn(column);
        boolean inTheirs = theirs.hasColumn(column);
        if (inOurs && inTheirs) {
            return true;
        }
        if (!base.hasColumn(column)) {
            return inOurs || inTheirs;
        }
        return ours.changedColumnOf(base, column) || theirs.changedColumnOf(base, column);
    }

    private int mergedName(int column) {
        if (!ours.hasColumn(column)) {
            return theirs.nameAt(column);
        }
        boolean renamedByTheirsAlone = theirs.renamedColumnOf(base, column)
                && !ours.renamedColumnOf(base, column);
        return renamedByTheirsAlone ? theirs.nameAt(column) : ours.nameAt(column);
    }

    /** For a column that both sides have. */
    private boolean namesAreAtOdds(int column) {
        // without the column in the base no side has renamed it, and unlike names stay at odds
        return ours.nameAt(column) != theirs.nameAt(column)
                && ours.renamedColumnOf(base, column) == theirs.renamedColumnOf(base, column);
    }

    private void listNamesTwice() {
        for (int column = 0; column < COLUMN_COUNT; column++) {
            if (hasNameOfLowerColumn(column)) {
                list.append(NAME_TWICE, NONE, column);
            }
        }
    }

    private boolean hasNameOfLowerColumn(int column) {
        if (!merged.hasColumn(column)) {
            return false;
        }
        for (int lower = 0; lower < column; lower++) {
            if (merged.hasColumn(lower) && merged.nameAt(lower) == merged.nameAt(column)) {
                return true;
            }
        }
        return false;
    }

    // ---- merging rows

    private void mergeRow(int key) {
        if (!rowStays(key)) {
            return;
        }
        merged.putRow(key);
        boolean inBoth = ours.hasRow(key) && theirs.hasRow(key);
        if (!inBoth && base.hasRow(key)) {
            list.append(ROW_AT_ODDS, key, NONE);
        }
    }

    private boolean rowStays(int key) {
        boolean inOurs = ours.hasRow(key);
        boolean inTheirs = theirs.hasRow(key);
        if (inOurs && inTheirs) {
            return true;
        }
        if (!base.hasRow(key)) {
            return inOurs || inTheirs;
        }
        return ours.countCellsChanged(base, key) > 0 || theirs.countCellsChanged(base, key) > 0;
    }

    // ---- merging cells

    private void mergeCells() {
        for (int key = 0; key < ROW_COUNT; key++) {
            for (int column = 0; column < COLUMN_COUNT; column++) {
                mergeCell(key, column);
            }
        }
    }

    private void mergeCell(int key, int column) {
        if (!isColumnNumber(column) || !merged.hasCell(key, column)) {
            return;
        }
        boolean unlike = cellsAreUnlike(key, column);
        merged.putCell(key, column, mergedCell(key, column, rules[column], unlike));
        if (unlike && rules[column] == RULE_CONFLICT) {
            list.append(CELL_AT_ODDS, key, column);
        }
    }

    private int mergedCell(int key, int column, int rule, boolean unlike) {
        int o = ours.cellAt(key, column);
        int t = theirs.cellAt(key, column);
        if (!ours.hasCell(key, column)) {
            return t;
        }
        if (!theirs.hasCell(key, column)) {
            return o;
        }
        int b = base.cellAt(key, column);
        if (rule == RULE_SUM) {
            return o + t - b;
        }
        if (unlike) {
            return rule == RULE_GREATER ? Math.max(o, t) : o;
        }
        return base.hasCell(key, column) && o == b ? t : o;
    }

    /** True if both sides changed the cell, or added it, and not to the same number. */
    private boolean cellsAreUnlike(int key, int column) {
        if (!ours.hasCell(key, column) || !theirs.hasCell(key, column)) {
            return false;
        }
        int o = ours.cellAt(key, column);
        int t = theirs.cellAt(key, column);
        if (o == t) {
            return false;
        }
        int b = base.cellAt(key, column);
        return !base.hasCell(key, column) || (o != b && t != b);
    }

    private void listReferencesToNoRow() {
        for (int key = 0; key < ROW_COUNT; key++) {
            for (int column = 0; column < COLUMN_COUNT; column++) {
                if (refersToNoRow(key, column)) {
                    list.append(NO_SUCH_ROW, key, column);
                }
            }
        }
    }

    private boolean refersToNoRow(int key, int column) {
        if (!isColumnNumber(column) || !references[column] || !merged.hasCell(key, column)) {
            return false;
        }
        int cell = merged.cellAt(key, column);
        return cell != NONE && !merged.hasRow(cell);
    }

    // ---- a merged cell found the other way, by taking each side's changes into the base

    private boolean rowStaysByChanges(int key) {
        boolean stays = rowStaysAfter(base.hasRow(key), ours, theirs, key);
        return rowStaysAfter(stays, theirs, ours, key);
    }

    /** Takes into the rows so far whether the side added or removed the row. */
    private boolean rowStaysAfter(boolean soFar, Table side, Table other, int key) {
        if (side.hasRow(key) == base.hasRow(key)) {
            return soFar;
        }
        return side.hasRow(key) || soFar && other.countCellsChanged(base, key) > 0;
    }

    private boolean columnStaysByChanges(int column) {
        boolean stays = columnStaysAfter(base.hasColumn(column), ours, theirs, column);
        return columnStaysAfter(stays, theirs, ours, column);
    }

    /** Takes into the columns so far whether the side added or dropped the column. */
    private boolean columnStaysAfter(boolean soFar, Table side, Table other, int column) {
        if (side.hasColumn(column) == base.hasColumn(column)) {
            return soFar;
        }
        return side.hasColumn(column) || soFar && other.changedColumnOf(base, column);
    }

    private int sumByChanges(int key, int column) {
        int before = base.cellAt(key, column);
        int sum = before;
        if (ours.hasCell(key, column)) {
            sum += ours.cellAt(key, column) - before;
        }
        if (theirs.hasCell(key, column)) {
            sum += theirs.cellAt(key, column) - before;
        }
        return sum;
    }

    private int choiceByChanges(int key, int column, int rule) {
        boolean changedByOurs = ours.addedOrChangedCellOf(base, key, column);
        boolean changedByTheirs = theirs.addedOrChangedCellOf(base, key, column);
        int choice = base.cellAt(key, column);
        if (changedByOurs) {
            choice = ours.cellAt(key, column);
        }
        if (changedByTheirs && !changedByOurs) {
            choice = theirs.cellAt(key, column);
        }
        if (changedByTheirs && changedByOurs && rule == RULE_GREATER) {
            choice = Math.max(choice, theirs.cellAt(key, column));
        }
        return choice;
    }

    // ---- settling

    private void takeSide(Table side, int kind, int key, int column) {
        switch (kind) {
            case CELL_AT_ODDS:
                merged.putCell(key, column, side.cellAt(key, column));
                break;
            case ROW_AT_ODDS:
                if (!side.hasRow(key)) {
                    merged.cutRow(key);
                }
                break;
            case COLUMN_AT_ODDS:
                if (!side.hasColumn(column)) {
                    merged.cutColumn(column);
                }
                break;
            case NAME_AT_ODDS:
                merged.putName(column, side.nameAt(column));
                break;
            default:
                break;
        }
    }

    /**
     * One of the four tables. A cell or a name that it does not have is 0 inside, so that what is
     * added is 0 by itself; what is asked or put outside the table answers 0 or does nothing.
     */
    private static final class Table {
        private int columnSet = 0;
        private int rowSet = 0;
        private final int[] names = new int[COLUMN_COUNT];
        private final int[] cells = new int[ROW_COUNT * COLUMN_COUNT];

        private boolean hasColumn(int column) {
            return column >= 0 && column < COLUMN_COUNT && (columnSet & (1 << column)) != 0;
        }

        private boolean hasRow(int key) {
            return key >= 0 && key < ROW_COUNT && (rowSet & (1 << key)) != 0;
        }

        private boolean hasCell(int key, int column) {
            return hasRow(key) && hasColumn(column);
        }

        private int columnCount() {
            return Integer.bitCount(columnSet);
        }

        private int rowCount() {
            return Integer.bitCount(rowSet);
        }

        private int cellCount() {
            return columnCount() * rowCount();
        }

        private int nameAt(int column) {
            return hasColumn(column) ? names[column] : 0;
        }

        private int cellAt(int key, int column) {
            return hasCell(key, column) ? cells[key * COLUMN_COUNT + column] : 0;
        }

        private void putColumn(int column, int name) {
            if (isColumnNumber(column)) {
                columnSet |= 1 << column;
                names[column] = name;
            }
        }

        private void putName(int column, int name) {
            if (hasColumn(column)) {
                names[column] = name;
            }
        }

        private void cutColumn(int column) {
            if (!hasColumn(column)) {
                return;
            }
            for (int key = 0; key < ROW_COUNT; key++) {
                putCell(key, column, 0);
            }
            names[column] = 0;
            columnSet &= ~(1 << column);
        }

        private void putRow(int key) {
            if (isKey(key)) {
                rowSet |= 1 << key;
            }
        }

        private void cutRow(int key) {
            if (!hasRow(key)) {
                return;
            }
            for (int column = 0; column < COLUMN_COUNT; column++) {
                putCell(key, column, 0);
            }
            rowSet &= ~(1 << key);
        }

        private void putCell(int key, int column, int value) {
            if (hasCell(key, column)) {
                cells[key * COLUMN_COUNT + column] = value;
            }
        }

        private void becomeEmpty() {
            columnSet = 0;
            rowSet = 0;
            Arrays.fill(names, 0);
            Arrays.fill(cells, 0);
        }

        private void becomeLike(Table other) {
            columnSet = other.columnSet;
            rowSet = other.rowSet;
            System.arraycopy(other.names, 0, names, 0, COLUMN_COUNT);
            System.arraycopy(other.cells, 0, cells, 0, ROW_COUNT * COLUMN_COUNT);
        }

        private boolean changedCellOf(Table origin, int key, int column) {
            int at = key * COLUMN_COUNT + column;
            return hasCell(key, column) && origin.hasCell(key, column)
                    && cells[at] != origin.cells[at];
        }

        private boolean addedOrChangedCellOf(Table origin, int key, int column) {
            return hasCell(key, column)
                    && (!origin.hasCell(key, column) || changedCellOf(origin, key, column));
        }

        private boolean renamedColumnOf(Table origin, int column) {
            return hasColumn(column) && origin.hasColumn(column)
                    && nameAt(column) != origin.nameAt(column);
        }

        private boolean changedColumnOf(Table origin, int column) {
            if (renamedColumnOf(origin, column)) {
                return true;
            }
            for (int key = 0; key < ROW_COUNT; key++) {
                if (changedCellOf(origin, key, column)) {
                    return true;
                }
            }
            return false;
        }

        private int countCellsChanged(Table origin, int key) {
            int count = 0;
            for (int column = 0; column < COLUMN_COUNT; column++) {
                if (changedCellOf(origin, key, column)) {
                    count++;
                }
            }
            return count;
        }

        private int countChangesFrom(Table origin) {
            int count = Integer.bitCount(columnSet ^ origin.columnSet)
                    + Integer.bitCount(rowSet ^ origin.rowSet);
            for (int column = 0; column < COLUMN_COUNT; column++) {
                if (renamedColumnOf(origin, column)) {
                    count++;
                }
            }
            for (int key = 0; key < ROW_COUNT; key++) {
                count += countCellsChanged(origin, key);
            }
            return count;
        }
    }

    /** The conflicts by their places, with room for as many as one merge could ever list. */
    private static final class ConflictList {
        // at most one of a column's two kinds, one for each row, two for each cell, and a name
        private static final int ROOM = 2 * COLUMN_COUNT + ROW_COUNT + 2 * ROW_COUNT * COLUMN_COUNT;

        private int size = 0;
        private int openCount = 0;
        private final int[] kinds = new int[ROOM];
        private final int[] keys = new int[ROOM];
        private final int[] columnNumbers = new int[ROOM];
        private final boolean[] settled = new boolean[ROOM];

        private boolean holds(int place) {
            return place >= 0 && place < size && place < ROOM;
        }

        private int kindAt(int place) {
            return holds(place) ? kinds[place] : 0;
        }

        private int keyAt(int place) {
            return holds(place) ? keys[place] : NONE;
        }

        private int columnAt(int place) {
            return holds(place) ? columnNumbers[place] : NONE;
        }

        private boolean isSettled(int place) {
            return holds(place) && settled[place];
        }

        private void append(int kind, int key, int column) {
            if (size >= ROOM) {
                return;
            }
            kinds[size] = kind;
            keys[size] = key;
            columnNumbers[size] = column;
            settled[size] = false;
            size++;
            openCount++;
        }

        private void markSettled(int place) {
            if (holds(place) && !settled[place]) {
                settled[place] = true;
                openCount--;
            }
        }

        private void becomeEmpty() {
            size = 0;
            openCount = 0;
        }
    }
}
