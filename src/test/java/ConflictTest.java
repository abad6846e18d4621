/** Promises 19 to 24: the list of conflicts, and settling them. */
public final class ConflictTest {
    public static void main(String[] args) {
        order();
        orderWithinAKind();
        namesTwice();
        referencesToNoRow();
        places();
        conflictsAndOpen();
        settleCell();
        settleName();
        settleRow();
        settleColumn();
        settleWhatChangesNothing();
        settleRefuses();
        settleNotFresh();
        listStaysWhenNotFresh();
        asManyAsThereCanBe();
        Check.end();
    }

    private static void order() {
        TableSplice x = Filled.oneOfEachKind();
        Check.dueList("one of each kind", x, "3:-1:0 4:-1:1 2:1:-1 1:0:2 5:-1:3 6:0:3");
        Check.due("one of each kind: conflicts()", x.conflicts(), 6);
        Check.due("one of each kind: open()", x.open(), 6);
    }

    private static void orderWithinAKind() {
        TableSplice x = Filled.forked(4, 0, 1, 2, 3);
        x.rename(1, 0, 50);
        x.rename(2, 0, 51);
        x.rename(2, 1, 52);
        x.dropColumn(1, 1);
        x.rename(1, 2, 53);
        x.rename(2, 2, 54);
        x.set(2, 3, 3, 1);
        x.removeRow(1, 3);
        x.set(1, 1, 3, 1);
        x.removeRow(2, 1);
        for (int key = 0; key <= 2; key += 2) {
            for (int column = 0; column <= 3; column += 3) {
                x.set(1, key, column, 30);
                x.set(2, key, column, 31);
            }
        }
        x.setReference(0, true);
        x.setReference(3, true);
        Check.due("order within the kinds", x.merge(), 13);
        Check.dueList("order within the kinds", x, "4:-1:0 3:-1:1 4:-1:2 2:1:-1 2:3:-1"
                + " 1:0:0 1:0:3 1:2:0 1:2:3 6:0:0 6:0:3 6:2:0 6:2:3");
    }

    private static void namesTwice() {
        TableSplice x = new TableSplice();
        x.addColumn(1, 0, 5);
        x.addColumn(1, 3, 6);
        x.addColumn(2, 5, 5);
        x.addColumn(2, 7, 5);
        x.addColumn(1, 6, 6);
        x.addColumn(0, 1, 5);
        Check.due("names twice", x.merge(), 3);
        Check.dueList("names twice", x, "5:-1:5 5:-1:6 5:-1:7");
        x.rename(1, 0, 9);
        x.merge();
        Check.dueList("names twice: a column that is not merged", x, "5:-1:6 5:-1:7");
        // the merged name tells: ours and theirs have swapped names, and the base's name is gone
        TableSplice y = Filled.forked(2);
        y.rename(1, 0, 11);
        y.rename(2, 1, 10);
        Check.due("names swapped", y.merge(), 0);
        Check.due("names swapped: 0", y.name(3, 0), 11);
        Check.due("names swapped: 1", y.name(3, 1), 10);
        y.fork();
        y.rename(1, 0, 11);
        Check.due("a name that another has", y.merge(), 1);
        Check.dueList("a name that another has", y, "5:-1:1");
    }

    private static void referencesToNoRow() {
        TableSplice x = Filled.forked(2, 0, 5, 23);
        x.setReference(1, true);
        x.addColumn(0, 3, 1);
        x.setReference(3, true);
        int[] cells = {-1, 0, 5, 23, 1, 22, 24, -2, 9999, -9999, 32, 37, 55};
        boolean[] dangling = {false, false, false, false, true, true, true, true, true, true,
            true, true, true};
        for (int i = 0; i < cells.length; i++) {
            x.set(1, 5, 1, cells[i]);
            x.set(1, 5, 0, cells[i]);
            Check.due("reference to " + cells[i], x.merge(), dangling[i] ? 1 : 0);
            Check.dueList("reference to " + cells[i], x, dangling[i] ? "6:5:1" : "");
        }
        x.set(1, 5, 1, 23);
        x.removeRow(2, 23);
        x.merge();
        Check.dueList("reference to a row that one side removed", x, "6:5:1");
        x.set(1, 23, 0, 4);
        x.merge();
        Check.dueList("reference to a row that is kept", x, "2:23:-1");
        x.setReference(1, false);
        x.set(1, 5, 1, 22);
        x.merge();
        Check.dueList("no reference any more", x, "2:23:-1");
        // a cell that nobody set is 0, the key of a row that must be there
        TableSplice y = new TableSplice();
        y.addColumn(1, 2, 1);
        y.addRow(1, 7);
        y.setReference(2, true);
        y.merge();
        Check.dueList("reference 0 without a row 0", y, "6:7:2");
    }

    private static void places() {
        TableSplice x = Filled.oneOfEachKind();
        for (int place : new int[] {-1, 6, 7, 424, Integer.MIN_VALUE, Integer.MAX_VALUE}) {
            Check.throwsOut("kindOf(" + place + ")", () -> x.kindOf(place));
            Check.throwsOut("keyOf(" + place + ")", () -> x.keyOf(place));
            Check.throwsOut("columnOf(" + place + ")", () -> x.columnOf(place));
            Check.throwsOut("settle(" + place + ", 1)", () -> x.settle(place, 1));
        }
        x.fork();
        Check.throwsOut("kindOf(0) after fork", () -> x.kindOf(0));
        Check.throwsOut("keyOf(0) after fork", () -> x.keyOf(0));
        Check.throwsOut("columnOf(0) after fork", () -> x.columnOf(0));
        Check.throwsOut("settle(0, 1) after fork", () -> x.settle(0, 1));
    }

    private static void conflictsAndOpen() {
        TableSplice x = Filled.oneOfEachKind();
        int[] places = {5, 0, 3, 1, 4, 2};
        for (int i = 0; i < places.length; i++) {
            Check.due("settle one more", x.settle(places[i], 1 + i % 2), 5 - i);
            Check.due("open()", x.open(), 5 - i);
            Check.due("conflicts() counts settled ones", x.conflicts(), 6);
            Check.dueList("the list stays", x, "3:-1:0 4:-1:1 2:1:-1 1:0:2 5:-1:3 6:0:3");
        }
    }

    private static void settleCell() {
        TableSplice x = Filled.oneCell(0, 1, 2, 3);
        x.merge();
        Check.due("settle a cell for ours", x.settle(0, 1), 0);
        Check.due("settle a cell for ours: it", x.get(3, 0, 0), 2);
        x.merge();
        Check.due("settle a cell for theirs", x.settle(0, 2), 0);
        Check.due("settle a cell for theirs: it", x.get(3, 0, 0), 3);
        Check.due("settle leaves ours", x.get(1, 0, 0), 2);
    }

    private static void settleName() {
        TableSplice x = Filled.forked(1);
        x.rename(1, 0, 50);
        x.rename(2, 0, 60);
        x.merge();
        Check.due("settle a name for ours", x.settle(0, 1), 0);
        Check.due("settle a name for ours: it", x.name(3, 0), 50);
        x.merge();
        Check.due("settle a name for theirs", x.settle(0, 2), 0);
        Check.due("settle a name for theirs: it", x.name(3, 0), 60);
    }

    private static void settleRow() {
        for (int changed = 1; changed <= 2; changed++) {
            TableSplice x = Filled.forked(1, 0, 4);
            x.set(changed, 4, 0, 5);
            x.removeRow(3 - changed, 4);
            x.merge();
            Check.due("settle a row for the side that has it", x.settle(0, changed), 0);
            Check.due("settle a row: it stays", x.rows(3), 1 | 1 << 4);
            Check.due("settle a row: its cell", x.get(3, 4, 0), 5);
            x.merge();
            Check.due("settle a row for the side that removed it", x.settle(0, 3 - changed), 0);
            Check.due("settle a row: it goes", x.rows(3), 1);
            Check.throwsOut("settle a row: its cell goes", () -> x.get(3, 4, 0));
            Check.due("settle a row, accept", x.accept(), 1);
            Check.due("settle a row, accept: base", x.rows(0), 1);
            x.addRow(0, 4);
            Check.due("settle a row, add it again", x.get(0, 4, 0), 0);
        }
    }

    private static void settleColumn() {
        for (int changed = 1; changed <= 2; changed++) {
            TableSplice x = Filled.forked(2, 4);
            x.set(changed, 4, 0, 5);
            x.dropColumn(3 - changed, 0);
            x.merge();
            Check.due("settle a column for the side that has it", x.settle(0, changed), 0);
            Check.due("settle a column: it stays", x.columns(3), 3);
            Check.due("settle a column: its cell", x.get(3, 4, 0), 5);
            x.merge();
            Check.due("settle a column for the side that dropped it", x.settle(0, 3 - changed), 0);
            Check.due("settle a column: it goes", x.columns(3), 2);
            Check.throwsOut("settle a column: its name goes", () -> x.name(3, 0));
            Check.due("settle a column, accept", x.accept(), 1);
            x.addColumn(0, 0, 1);
            Check.due("settle a column, add it again", x.get(0, 4, 0), 0);
        }
    }

    private static void settleWhatChangesNothing() {
        for (int side = 1; side <= 2; side++) {
            TableSplice x = Filled.forked(2, 0);
            x.setReference(0, true);
            x.rename(1, 0, 11);
            x.set(2, 0, 0, 7);
            x.merge();
            Check.dueList("kinds 5 and 6", x, "5:-1:1 6:0:0");
            Check.due("settle kind 5", x.settle(0, side), 1);
            Check.due("settle kind 6", x.settle(1, side), 0);
            Check.due("kinds 5 and 6: name 0", x.name(3, 0), 11);
            Check.due("kinds 5 and 6: name 1", x.name(3, 1), 11);
            Check.due("kinds 5 and 6: cell", x.get(3, 0, 0), 7);
            Check.due("kinds 5 and 6: columns", x.columns(3), 3);
            Check.due("kinds 5 and 6: rows", x.rows(3), 1);
        }
        // a row removed by settling leaves the references to it, and its own conflicts, in the list
        TableSplice y = Filled.forked(1, 0, 4);
        y.setReference(0, true);
        y.set(1, 4, 0, 9);
        y.removeRow(2, 4);
        y.merge();
        Check.dueList("a removed row's reference", y, "2:4:-1 6:4:0");
        Check.due("settle the row", y.settle(0, 2), 1);
        Check.dueList("a removed row's reference stays", y, "2:4:-1 6:4:0");
        Check.due("settle the reference of the removed row", y.settle(1, 1), 0);
        Check.due("the row stays removed", y.rows(3), 1);
    }

    private static void settleRefuses() {
        TableSplice x = Filled.oneCell(0, 1, 2, 3);
        Check.throwsOut("settle before a merge", () -> x.settle(0, 1));
        x.merge();
        Check.throwsOut("settle(0, 0)", () -> x.settle(0, 0));
        Check.throwsOut("settle(0, 3)", () -> x.settle(0, 3));
        Check.throwsOut("settle(0, -1)", () -> x.settle(0, -1));
        Check.due("settle refused: open", x.open(), 1);
        x.settle(0, 1);
        Check.throwsState("settle again", () -> x.settle(0, 2));
        Check.due("settle again: cell", x.get(3, 0, 0), 2);
        Check.throwsOut("settle again: the side comes first", () -> x.settle(0, 3));
        Check.throwsOut("settle: no such place", () -> x.settle(1, 1));
    }

    private static void settleNotFresh() {
        for (int call = 0; call < 8; call++) {
            TableSplice x = Filled.forked(2, 0, 1);
            x.set(1, 1, 1, 2);
            x.set(2, 1, 1, 3);
            x.merge();
            Filled.fillByCall(x, call);
            Check.throwsState("settle after filling call " + call, () -> x.settle(0, 2));
            Check.throwsOut("settle not fresh: the place comes first", () -> x.settle(1, 2));
            Check.throwsOut("settle not fresh: the side comes first", () -> x.settle(0, 3));
            Check.due("settle not fresh: cell", x.get(3, 1, 1), 2);
            Check.due("settle not fresh: open", x.open(), 1);
            x.merge();
            Check.due("fresh again", x.settle(0, 2), 0);
        }
    }

    private static void listStaysWhenNotFresh() {
        TableSplice x = Filled.oneOfEachKind();
        x.settle(2, 1);
        x.dropColumn(1, 1);
        x.removeRow(2, 0);
        x.setReference(3, false);
        x.setRule(2, 1);
        Check.dueList("not fresh", x, "3:-1:0 4:-1:1 2:1:-1 1:0:2 5:-1:3 6:0:3");
        Check.due("not fresh: conflicts()", x.conflicts(), 6);
        Check.due("not fresh: open()", x.open(), 5);
        Check.throwsState("not fresh: accept()", x::accept);
        Check.due("not fresh: conflicts() after a refused accept()", x.conflicts(), 6);
        x.fork();
        Check.dueList("after fork", x, "");
        Check.due("after fork: open()", x.open(), 0);
    }

    /** 8 names, 192 cells, 7 names twice and 192 references, within 512 calls. */
    private static void asManyAsThereCanBe() {
        TableSplice x = new TableSplice();
        for (int column = 0; column <= 7; column++) {
            x.addColumn(1, column, 1);
            x.addColumn(2, column, 2);
            x.setReference(column, true);
        }
        for (int key = 0; key <= 23; key++) {
            x.addRow(1, key);
            x.addRow(2, key);
            for (int column = 0; column <= 7; column++) {
                x.set(1, key, column, 99);
            }
        }
        Check.due("as many as there can be", x.merge(), 399);
        Check.due("the last of them: kind", x.kindOf(398), 6);
        Check.due("the last of them: key", x.keyOf(398), 23);
        Check.due("the last of them: column", x.columnOf(398), 7);
        Check.due("the last cell: kind", x.kindOf(199), 1);
        Check.due("the last name: kind", x.kindOf(206), 5);
        for (int place = 398; place >= 210; place--) {
            Check.due("settle from the end", x.settle(place, 2), place);
        }
        Check.throwsOut("one more", () -> x.kindOf(399));
    }
}
