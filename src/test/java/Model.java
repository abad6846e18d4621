import java.util.ArrayList;
import java.util.HashMap;
import java.util.List;
import java.util.Map;
import java.util.TreeMap;
import java.util.TreeSet;

/**
 * A second program for the same document, plain and slow, of sets and maps, that shares no thought
 * with the first one: a cell is null where the table does not have it.
 */
final class Model {
    private static final int RULES = 4;

    private final List<Map<Integer, Integer>> names = new ArrayList<>();
    private final List<TreeSet<Integer>> rows = new ArrayList<>();
    private final List<Map<Integer, Integer>> cells = new ArrayList<>();
    private final int[] rules = new int[8];
    private final boolean[] references = new boolean[8];
    private final List<int[]> conflicts = new ArrayList<>();
    private final List<Boolean> settled = new ArrayList<>();
    private boolean fresh = false;

    Model() {
        for (int table = 0; table <= 3; table++) {
            names.add(new TreeMap<>());
            rows.add(new TreeSet<>());
            cells.add(new HashMap<>());
        }
    }

    private static void out(boolean is) {
        if (is) {
            throw new IndexOutOfBoundsException();
        }
    }

    private static void argument(boolean is) {
        if (is) {
            throw new IllegalArgumentException();
        }
    }

    private static void state(boolean is) {
        if (is) {
            throw new IllegalStateException();
        }
    }

    private static boolean within(int number, int low, int high) {
        return low <= number && number <= high;
    }

    private static int placeOf(int key, int column) {
        return key * 100 + column;
    }

    private Integer cell(int table, int key, int column) {
        if (!rows.get(table).contains(key) || !names.get(table).containsKey(column)) {
            return null;
        }
        return cells.get(table).getOrDefault(placeOf(key, column), 0);
    }

    private Integer nameOrNull(int table, int column) {
        return names.get(table).get(column);
    }

    int addColumn(int table, int column, int name) {
        out(!within(table, 0, 2) || !within(column, 0, 7));
        argument(!within(name, 0, 99));
        state(nameOrNull(table, column) != null);
        names.get(table).put(column, name);
        fresh = false;
        return names.get(table).size();
    }

    int dropColumn(int table, int column) {
        out(!within(table, 0, 2) || nameOrNull(table, column) == null);
        fresh = false;
        cells.get(table).keySet().removeIf(place -> place % 100 == column);
        return names.get(table).remove(column);
    }

    int rename(int table, int column, int name) {
        out(!within(table, 0, 2) || nameOrNull(table, column) == null);
        argument(!within(name, 0, 99));
        fresh = false;
        return names.get(table).put(column, name);
    }

    int addRow(int table, int key) {
        out(!within(table, 0, 2) || !within(key, 0, 23));
        state(!rows.get(table).add(key));
        fresh = false;
        return rows.get(table).size();
    }

    int removeRow(int table, int key) {
        out(!within(table, 0, 2) || !rows.get(table).contains(key));
        fresh = false;
        cells.get(table).keySet().removeIf(place -> place / 100 == key);
        rows.get(table).remove(key);
        return rows.get(table).size();
    }

    int set(int table, int key, int column, int value) {
        out(!within(table, 0, 2) || cell(table, key, column) == null);
        argument(!within(value, -9999, 9999));
        fresh = false;
        int before = cell(table, key, column);
        cells.get(table).put(placeOf(key, column), value);
        return before;
    }

    int setRule(int column, int rule) {
        out(!within(column, 0, 7));
        argument(!within(rule, 0, RULES - 1));
        fresh = false;
        int before = rules[column];
        rules[column] = rule;
        return before;
    }

    boolean setReference(int column, boolean isReference) {
        out(!within(column, 0, 7));
        fresh = false;
        boolean changes = references[column] != isReference;
        references[column] = isReference;
        return changes;
    }

    int columns(int table) {
        out(!within(table, 0, 3));
        return names.get(table).keySet().stream().mapToInt(c -> 1 << c).sum();
    }

    int rows(int table) {
        out(!within(table, 0, 3));
        return rows.get(table).stream().mapToInt(k -> 1 << k).sum();
    }

    int name(int table, int column) {
        out(!within(table, 0, 3) || nameOrNull(table, column) == null);
        return nameOrNull(table, column);
    }

    int get(int table, int key, int column) {
        out(!within(table, 0, 3) || cell(table, key, column) == null);
        return cell(table, key, column);
    }

    int changes(int side) {
        out(!within(side, 1, 2));
        int count = 0;
        for (int column = 0; column <= 7; column++) {
            Integer is = nameOrNull(side, column);
            Integer was = nameOrNull(0, column);
            if (is == null ? was != null : !is.equals(was)) {
                count++;
            }
        }
        for (int key = 0; key <= 23; key++) {
            if (rows.get(side).contains(key) != rows.get(0).contains(key)) {
                count++;
            }
            for (int column = 0; column <= 7; column++) {
                count += changedCell(side, key, column) ? 1 : 0;
            }
        }
        return count;
    }

    private boolean changedCell(int side, int key, int column) {
        Integer is = cell(side, key, column);
        Integer was = cell(0, key, column);
        return is != null && was != null && !is.equals(was);
    }

    private boolean changedColumn(int side, int column) {
        Integer is = nameOrNull(side, column);
        Integer was = nameOrNull(0, column);
        boolean changed = is != null && was != null && !is.equals(was);
        for (int key = 0; key <= 23; key++) {
            changed |= changedCell(side, key, column);
        }
        return changed;
    }

    private boolean changedRow(int side, int key) {
        boolean changed = false;
        for (int column = 0; column <= 7; column++) {
            changed |= changedCell(side, key, column);
        }
        return changed;
    }

    private void makeLike(int table, int other) {
        names.set(table, new TreeMap<>(names.get(other)));
        rows.set(table, new TreeSet<>(rows.get(other)));
        cells.set(table, new HashMap<>(cells.get(other)));
    }

    private void emptyMergedAndList() {
        names.get(3).clear();
        rows.get(3).clear();
        cells.get(3).clear();
        conflicts.clear();
        settled.clear();
    }

    int fork() {
        makeLike(1, 0);
        makeLike(2, 0);
        emptyMergedAndList();
        fresh = false;
        return names.get(0).size() * rows.get(0).size();
    }

    int accept() {
        state(!fresh || open() > 0);
        makeLike(0, 3);
        return fork();
    }

    private void list(int kind, int key, int column) {
        conflicts.add(new int[] {kind, key, column});
        settled.add(false);
    }

    /** 0 not merged, 1 merged, 2 merged with a conflict. */
    private static int staying(boolean b, boolean o, boolean t, boolean oChanged,
            boolean tChanged) {
        if (o && t || !b && (o || t)) {
            return 1;
        }
        return b && (o && oChanged || t && tChanged) ? 2 : 0;
    }

    private int columnStaying(int column) {
        return staying(nameOrNull(0, column) != null, nameOrNull(1, column) != null,
                nameOrNull(2, column) != null, changedColumn(1, column), changedColumn(2, column));
    }

    private int rowStaying(int key) {
        return staying(rows.get(0).contains(key), rows.get(1).contains(key),
                rows.get(2).contains(key), changedRow(1, key), changedRow(2, key));
    }

    private void mergeName(int column) {
        Integer b = nameOrNull(0, column);
        Integer o = nameOrNull(1, column);
        Integer t = nameOrNull(2, column);
        int name;
        if (o == null || t == null) {
            name = o == null ? t : o;
        } else if (o.equals(t)) {
            name = o;
        } else if (b != null && o.equals(b)) {
            name = t;
        } else if (b != null && t.equals(b)) {
            name = o;
        } else {
            name = o;
            list(4, -1, column);
        }
        names.get(3).put(column, name);
    }

    /** The merged cell and 1 if there is a conflict. */
    private int[] mergedCell(int key, int column) {
        Integer b = cell(0, key, column);
        Integer o = cell(1, key, column);
        Integer t = cell(2, key, column);
        if (o == null && t == null) {
            return new int[] {0, 0};
        }
        if (o == null || t == null) {
            return new int[] {o == null ? t : o, 0};
        }
        if (rules[column] == 3) {
            return new int[] {b == null ? o + t : o + t - b, 0};
        }
        if (o.equals(t)) {
            return new int[] {o, 0};
        }
        if (b != null && o.equals(b)) {
            return new int[] {t, 0};
        }
        if (b != null && t.equals(b)) {
            return new int[] {o, 0};
        }
        switch (rules[column]) {
            case 0:
                return new int[] {o, 1};
            case 1:
                return new int[] {o, 0};
            default:
                return new int[] {o < t ? t : o, 0};
        }
    }

    int cellByChanges(int key, int column) {
        out(!within(key, 0, 23) || !within(column, 0, 7));
        return rowStaying(key) == 0 || columnStaying(column) == 0 ? 0 : mergedCell(key, column)[0];
    }

    int merge() {
        emptyMergedAndList();
        for (int column = 0; column <= 7; column++) {
            int staying = columnStaying(column);
            if (staying == 2) {
                list(3, -1, column);
            }
            if (staying != 0) {
                mergeName(column);
            }
        }
        for (int key = 0; key <= 23; key++) {
            int staying = rowStaying(key);
            if (staying == 2) {
                list(2, key, -1);
            }
            if (staying != 0) {
                rows.get(3).add(key);
            }
        }
        mergeCells();
        listTheLast();
        fresh = true;
        return conflicts.size();
    }

    private void mergeCells() {
        for (int key : rows.get(3)) {
            for (int column : names.get(3).keySet()) {
                int[] merged = mergedCell(key, column);
                cells.get(3).put(placeOf(key, column), merged[0]);
                if (merged[1] == 1) {
                    list(1, key, column);
                }
            }
        }
    }

    private void listTheLast() {
        TreeSet<Integer> seen = new TreeSet<>();
        names.get(3).forEach((column, name) -> {
            if (!seen.add(name)) {
                list(5, -1, column);
            }
        });
        for (int key : rows.get(3)) {
            for (int column : names.get(3).keySet()) {
                int value = cell(3, key, column);
                if (references[column] && value != -1 && !rows.get(3).contains(value)) {
                    list(6, key, column);
                }
            }
        }
    }

    int conflicts() {
        return conflicts.size();
    }

    int open() {
        return (int) settled.stream().filter(is -> !is).count();
    }

    /** The part of a conflict: 0 its kind, 1 its key, 2 its column. */
    int partOf(int place, int part) {
        out(!within(place, 0, conflicts.size() - 1));
        return conflicts.get(place)[part];
    }

    int settle(int place, int side) {
        out(!within(place, 0, conflicts.size() - 1) || !within(side, 1, 2));
        state(settled.get(place) || !fresh);
        int[] conflict = conflicts.get(place);
        settled.set(place, true);
        if (conflict[0] == 1) {
            cells.get(3).put(placeOf(conflict[1], conflict[2]),
                    cell(side, conflict[1], conflict[2]));
        } else if (conflict[0] == 2 && !rows.get(side).contains(conflict[1])) {
            rows.get(3).remove(conflict[1]);
            cells.get(3).keySet().removeIf(at -> at / 100 == conflict[1]);
        } else if (conflict[0] == 3 && nameOrNull(side, conflict[2]) == null) {
            names.get(3).remove(conflict[2]);
            cells.get(3).keySet().removeIf(at -> at % 100 == conflict[2]);
        } else if (conflict[0] == 4) {
            names.get(3).put(conflict[2], nameOrNull(side, conflict[2]));
        }
        return open();
    }
}
