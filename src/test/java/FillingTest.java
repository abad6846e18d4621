/** Promises 1 to 9: a new object, and the eight calls that fill or set. */
public final class FillingTest {
    public static void main(String[] args) {
        newObject();
        addColumn();
        addColumnRefuses();
        dropColumn();
        rename();
        addRow();
        addRowRefuses();
        removeRow();
        set();
        setRefuses();
        setRule();
        setReference();
        tablesAreApart();
        refusedCallsChangeNothing();
        Check.end();
    }

    private static void newObject() {
        TableSplice x = new TableSplice();
        for (int table = 0; table <= 3; table++) {
            Check.due("new: columns(" + table + ")", x.columns(table), 0);
            Check.due("new: rows(" + table + ")", x.rows(table), 0);
        }
        Check.due("new: changes(1)", x.changes(1), 0);
        Check.due("new: changes(2)", x.changes(2), 0);
        Check.due("new: conflicts()", x.conflicts(), 0);
        Check.due("new: open()", x.open(), 0);
        Check.throwsState("new: accept()", x::accept);
        for (int column = 0; column <= 7; column++) {
            Check.due("new: rule", x.setRule(column, 0), 0);
            Check.due("new: reference", x.setReference(column, false), false);
        }
        TableSplice other = new TableSplice();
        x.addColumn(0, 0, 1);
        Check.due("new: another object", other.columns(0), 0);
    }

    private static void addColumn() {
        for (int table = 0; table <= 2; table++) {
            TableSplice x = new TableSplice();
            int target = table;
            Check.due("addColumn the last", x.addColumn(table, 7, 99), 1);
            Check.due("addColumn the first", x.addColumn(table, 0, 0), 2);
            Check.due("addColumn a name that another has", x.addColumn(table, 3, 99), 3);
            Check.due("addColumn: columns", x.columns(table), 0b10001001);
            Check.due("addColumn: name 7", x.name(table, 7), 99);
            Check.due("addColumn: name 0", x.name(table, 0), 0);
            Check.throwsState("addColumn twice", () -> x.addColumn(target, 7, 1));
            Check.due("addColumn twice: name", x.name(table, 7), 99);
        }
        TableSplice x = new TableSplice();
        x.addRow(0, 5);
        x.addRow(0, 23);
        x.addColumn(0, 1, 1);
        Check.due("addColumn to rows: cell", x.get(0, 5, 1), 0);
        x.set(0, 5, 1, 9);
        x.set(0, 23, 1, 8);
        x.dropColumn(0, 1);
        x.addColumn(0, 1, 2);
        Check.due("addColumn again: cell 5", x.get(0, 5, 1), 0);
        Check.due("addColumn again: cell 23", x.get(0, 23, 1), 0);
        Check.due("addColumn again: name", x.name(0, 1), 2);
        for (int column = 0, count = 1; column <= 7; column++) {
            if (column != 1) {
                count++;
                Check.due("addColumn all", x.addColumn(0, column, column), count);
            }
        }
        Check.due("addColumn all: columns", x.columns(0), 255);
    }

    private static void addColumnRefuses() {
        TableSplice x = new TableSplice();
        x.addColumn(0, 2, 2);
        Check.throwsOut("addColumn to the merged table", () -> x.addColumn(3, 0, 0));
        Check.throwsOut("addColumn to table 4", () -> x.addColumn(4, 0, 0));
        Check.throwsOut("addColumn to table -1", () -> x.addColumn(-1, 0, 0));
        Check.throwsOut("addColumn 8", () -> x.addColumn(0, 8, 0));
        Check.throwsOut("addColumn -1", () -> x.addColumn(0, -1, 0));
        Check.throwsOut("addColumn 32", () -> x.addColumn(0, 32, 0));
        Check.throwsOut("addColumn 34", () -> x.addColumn(0, 34, 0));
        Check.throwsOut("addColumn lowest", () -> x.addColumn(0, Integer.MIN_VALUE, 0));
        Check.throwsArgument("addColumn name 100", () -> x.addColumn(0, 0, 100));
        Check.throwsArgument("addColumn name -1", () -> x.addColumn(0, 0, -1));
        Check.throwsOut("addColumn table before name", () -> x.addColumn(3, 0, 100));
        Check.throwsOut("addColumn number before name", () -> x.addColumn(0, 8, 100));
        Check.throwsArgument("addColumn name before had", () -> x.addColumn(0, 2, 100));
        Check.throwsState("addColumn had", () -> x.addColumn(0, 2, 2));
        Check.due("addColumn refused: columns", x.columns(0), 4);
        Check.due("addColumn refused: name", x.name(0, 2), 2);
    }

    private static void dropColumn() {
        TableSplice x = Filled.forked(8, 0, 23);
        x.set(2, 23, 7, 5);
        x.set(2, 23, 6, 6);
        Check.due("dropColumn 7", x.dropColumn(2, 7), 17);
        Check.due("dropColumn 0", x.dropColumn(2, 0), 10);
        Check.due("dropColumn of the base", x.dropColumn(0, 3), 13);
        Check.due("dropColumn of ours", x.dropColumn(1, 3), 13);
        Check.due("dropColumn: columns(2)", x.columns(2), 0b01111110);
        Check.due("dropColumn: columns(0)", x.columns(0), 0b11110111);
        Check.due("dropColumn: rows stay", x.rows(2), 1 | 1 << 23);
        Check.due("dropColumn: others stay", x.get(2, 23, 6), 6);
        Check.throwsOut("dropColumn: its cell", () -> x.get(2, 23, 7));
        Check.throwsOut("dropColumn: its name", () -> x.name(2, 7));
        Check.throwsOut("dropColumn twice", () -> x.dropColumn(2, 7));
        Check.throwsOut("dropColumn 8", () -> x.dropColumn(2, 8));
        Check.throwsOut("dropColumn -1", () -> x.dropColumn(2, -1));
        Check.throwsOut("dropColumn 33", () -> x.dropColumn(2, 33));
        Check.throwsOut("dropColumn of table -1", () -> x.dropColumn(-1, 1));
        Check.throwsOut("dropColumn of table 4", () -> x.dropColumn(4, 1));
        x.merge();
        Check.due("dropColumn: merged has 1", x.columns(3) & 2, 2);
        Check.throwsOut("dropColumn of the merged table", () -> x.dropColumn(3, 1));
        x.addColumn(2, 7, 3);
        Check.due("dropColumn: cell is gone", x.get(2, 23, 7), 0);
    }

    private static void rename() {
        TableSplice x = Filled.forked(2, 4);
        x.set(1, 4, 1, 5);
        Check.due("rename to 99", x.rename(1, 1, 99), 11);
        Check.due("rename to 0", x.rename(1, 1, 0), 99);
        Check.due("rename to the same", x.rename(1, 1, 0), 0);
        Check.due("rename to another's name", x.rename(1, 1, 10), 0);
        Check.due("rename: name", x.name(1, 1), 10);
        Check.due("rename: cell stays", x.get(1, 4, 1), 5);
        Check.due("rename in the base", x.rename(0, 0, 44), 10);
        Check.due("rename in theirs", x.rename(2, 0, 45), 10);
        Check.due("rename: the base", x.name(0, 0), 44);
        x.merge();
        Check.throwsOut("rename in the merged table", () -> x.rename(3, 0, 1));
        Check.throwsOut("rename in table -1", () -> x.rename(-1, 0, 1));
        Check.throwsOut("rename in table 4", () -> x.rename(4, 0, 1));
        Check.throwsOut("rename a column not had", () -> x.rename(0, 2, 1));
        Check.throwsOut("rename 8", () -> x.rename(0, 8, 1));
        Check.throwsOut("rename -1", () -> x.rename(0, -1, 1));
        Check.throwsOut("rename 32", () -> x.rename(0, 32, 1));
        Check.throwsArgument("rename to 100", () -> x.rename(0, 0, 100));
        Check.throwsArgument("rename to -1", () -> x.rename(0, 0, -1));
        Check.throwsOut("rename not had before name", () -> x.rename(0, 2, 100));
        Check.throwsOut("rename no table before name", () -> x.rename(3, 0, 100));
        Check.due("rename refused: name", x.name(0, 0), 44);
    }

    private static void addRow() {
        for (int table = 0; table <= 2; table++) {
            TableSplice x = new TableSplice();
            Check.due("addRow the last", x.addRow(table, 23), 1);
            Check.due("addRow the first", x.addRow(table, 0), 2);
            Check.due("addRow: rows", x.rows(table), 1 | 1 << 23);
        }
        TableSplice x = new TableSplice();
        x.addColumn(0, 0, 1);
        x.addColumn(0, 7, 1);
        x.addRow(0, 6);
        Check.due("addRow: cell", x.get(0, 6, 0), 0);
        x.set(0, 6, 0, 5);
        x.set(0, 6, 7, 5);
        x.removeRow(0, 6);
        x.addRow(0, 6);
        Check.due("addRow again: cell 0", x.get(0, 6, 0), 0);
        Check.due("addRow again: cell 7", x.get(0, 6, 7), 0);
        for (int key = 0, count = 1; key <= 23; key++) {
            if (key != 6) {
                count++;
                Check.due("addRow all", x.addRow(0, key), count);
            }
        }
        Check.due("addRow all: rows", x.rows(0), 0xFFFFFF);
    }

    private static void addRowRefuses() {
        TableSplice x = new TableSplice();
        x.addRow(1, 4);
        Check.throwsOut("addRow to the merged table", () -> x.addRow(3, 0));
        Check.throwsOut("addRow to table 4", () -> x.addRow(4, 0));
        Check.throwsOut("addRow to table -1", () -> x.addRow(-1, 0));
        Check.throwsOut("addRow 24", () -> x.addRow(1, 24));
        Check.throwsOut("addRow -1", () -> x.addRow(1, -1));
        Check.throwsOut("addRow 36", () -> x.addRow(1, 36));
        Check.throwsState("addRow twice", () -> x.addRow(1, 4));
        Check.throwsOut("addRow to the merged table, had by ours", () -> x.addRow(3, 4));
        Check.due("addRow refused: rows", x.rows(1), 1 << 4);
    }

    private static void removeRow() {
        TableSplice x = Filled.forked(2, 0, 7, 23);
        x.set(1, 23, 1, 5);
        x.set(1, 7, 1, 6);
        Check.due("removeRow 23", x.removeRow(1, 23), 2);
        Check.due("removeRow 0", x.removeRow(1, 0), 1);
        Check.due("removeRow of the base", x.removeRow(0, 7), 2);
        Check.due("removeRow of theirs", x.removeRow(2, 0), 2);
        Check.due("removeRow: rows(1)", x.rows(1), 1 << 7);
        Check.due("removeRow: rows(0)", x.rows(0), 1 | 1 << 23);
        Check.due("removeRow: others stay", x.get(1, 7, 1), 6);
        Check.due("removeRow: columns stay", x.columns(1), 3);
        Check.throwsOut("removeRow: its cell", () -> x.get(1, 23, 1));
        Check.throwsOut("removeRow twice", () -> x.removeRow(1, 23));
        Check.throwsOut("removeRow 24", () -> x.removeRow(1, 24));
        Check.throwsOut("removeRow -1", () -> x.removeRow(1, -1));
        Check.throwsOut("removeRow 39", () -> x.removeRow(1, 39));
        Check.throwsOut("removeRow of table -1", () -> x.removeRow(-1, 7));
        Check.throwsOut("removeRow of table 4", () -> x.removeRow(4, 7));
        x.merge();
        Check.due("removeRow: merged has 7", x.rows(3) & 1 << 7, 1 << 7);
        Check.throwsOut("removeRow of the merged table", () -> x.removeRow(3, 7));
        Check.due("removeRow the last one", x.removeRow(1, 7), 0);
        x.addRow(1, 23);
        Check.due("removeRow: cell is gone", x.get(1, 23, 1), 0);
    }

    private static void set() {
        for (int table = 0; table <= 2; table++) {
            TableSplice x = Filled.forked(8, 0, 1, 23);
            Check.due("set the last cell", x.set(table, 23, 7, 9999), 0);
            Check.due("set it again", x.set(table, 23, 7, -9999), 9999);
            Check.due("set it to the same", x.set(table, 23, 7, -9999), -9999);
            Check.due("set the first cell", x.set(table, 0, 0, 1), 0);
            Check.due("set: last cell", x.get(table, 23, 7), -9999);
            Check.due("set: first cell", x.get(table, 0, 0), 1);
            Check.due("set: neighbour in the row", x.get(table, 0, 1), 0);
            Check.due("set: neighbour in the column", x.get(table, 1, 0), 0);
        }
    }

    private static void setRefuses() {
        TableSplice x = Filled.forked(2, 3);
        x.merge();
        Check.throwsOut("set in the merged table", () -> x.set(3, 3, 0, 1));
        Check.throwsOut("set in table 4", () -> x.set(4, 3, 0, 1));
        Check.throwsOut("set in table -1", () -> x.set(-1, 3, 0, 1));
        Check.throwsOut("set in a row not had", () -> x.set(0, 2, 0, 1));
        Check.throwsOut("set in a column not had", () -> x.set(0, 3, 2, 1));
        Check.throwsOut("set in row 24", () -> x.set(0, 24, 0, 1));
        Check.throwsOut("set in row -1", () -> x.set(0, -1, 0, 1));
        Check.throwsOut("set in row 35", () -> x.set(0, 35, 0, 1));
        Check.throwsOut("set in column 8", () -> x.set(0, 3, 8, 1));
        Check.throwsOut("set in column -1", () -> x.set(0, 3, -1, 1));
        Check.throwsArgument("set 10000", () -> x.set(0, 3, 0, 10000));
        Check.throwsArgument("set -10000", () -> x.set(0, 3, 0, -10000));
        Check.throwsArgument("set lowest", () -> x.set(0, 3, 0, Integer.MIN_VALUE));
        Check.throwsOut("set: table before value", () -> x.set(3, 3, 0, 10000));
        Check.throwsOut("set: row before value", () -> x.set(0, 2, 0, 10000));
        Check.throwsOut("set: column before value", () -> x.set(0, 3, 2, 10000));
        Check.due("set refused: cell", x.get(0, 3, 0), 0);
    }

    private static void setRule() {
        TableSplice x = new TableSplice();
        for (int column = 0; column <= 7; column++) {
            Check.due("setRule 3", x.setRule(column, 3), 0);
            Check.due("setRule 2", x.setRule(column, 2), 3);
            Check.due("setRule 1", x.setRule(column, 1), 2);
            Check.due("setRule to the same", x.setRule(column, 1), 1);
        }
        Check.throwsOut("setRule of 8", () -> x.setRule(8, 0));
        Check.throwsOut("setRule of -1", () -> x.setRule(-1, 0));
        Check.throwsArgument("setRule to 4", () -> x.setRule(0, 4));
        Check.throwsArgument("setRule to -1", () -> x.setRule(0, -1));
        Check.throwsOut("setRule: column before rule", () -> x.setRule(8, 4));
        Check.due("setRule refused: rule", x.setRule(0, 0), 1);
        Check.due("setRule: another column", x.setRule(1, 0), 1);
    }

    private static void setReference() {
        TableSplice x = new TableSplice();
        for (int column = 0; column <= 7; column++) {
            Check.due("setReference to false at first", x.setReference(column, false), false);
            Check.due("setReference to true", x.setReference(column, true), true);
            Check.due("setReference to true again", x.setReference(column, true), false);
        }
        Check.due("setReference back", x.setReference(3, false), true);
        Check.due("setReference: another column", x.setReference(4, false), true);
        Check.throwsOut("setReference of 8", () -> x.setReference(8, true) ? 1 : 0);
        Check.throwsOut("setReference of -1", () -> x.setReference(-1, true) ? 1 : 0);
    }

    private static void tablesAreApart() {
        TableSplice x = Filled.forked(1, 0);
        x.set(1, 0, 0, 4);
        x.rename(2, 0, 8);
        x.addRow(0, 9);
        x.addColumn(2, 5, 5);
        Check.due("apart: base cell", x.get(0, 0, 0), 0);
        Check.due("apart: ours cell", x.get(1, 0, 0), 4);
        Check.due("apart: theirs cell", x.get(2, 0, 0), 0);
        Check.due("apart: base name", x.name(0, 0), 10);
        Check.due("apart: ours name", x.name(1, 0), 10);
        Check.due("apart: theirs name", x.name(2, 0), 8);
        Check.due("apart: base rows", x.rows(0), 1 | 1 << 9);
        Check.due("apart: ours rows", x.rows(1), 1);
        Check.due("apart: theirs columns", x.columns(2), 33);
        Check.due("apart: ours columns", x.columns(1), 1);
        Check.due("apart: merged", x.columns(3) + x.rows(3), 0);
    }

    /** Refused calls leave a list fresh too: accept() still answers. */
    private static void refusedCallsChangeNothing() {
        TableSplice x = Filled.forked(1, 0);
        x.set(1, 0, 0, 4);
        x.merge();
        Check.throwsArgument("refused addColumn", () -> x.addColumn(0, 1, 100));
        Check.throwsState("refused addColumn", () -> x.addColumn(0, 0, 1));
        Check.throwsOut("refused dropColumn", () -> x.dropColumn(0, 1));
        Check.throwsArgument("refused rename", () -> x.rename(0, 0, 100));
        Check.throwsState("refused addRow", () -> x.addRow(0, 0));
        Check.throwsOut("refused removeRow", () -> x.removeRow(0, 1));
        Check.throwsArgument("refused set", () -> x.set(0, 0, 0, 10000));
        Check.throwsArgument("refused setRule", () -> x.setRule(0, 4));
        Check.throwsOut("refused setReference", () -> x.setReference(8, true) ? 1 : 0);
        Check.throwsOut("refused settle", () -> x.settle(0, 1));
        Check.due("after refused calls: accept()", x.accept(), 1);
        Check.due("after refused calls: cell", x.get(0, 0, 0), 4);
    }
}
