/** Promises 10 to 14: what a table has, and how many changes a side has. */
public final class ReadingTest {
    public static void main(String[] args) {
        columnsAndRows();
        name();
        get();
        changes();
        changesOfWhatCameAndWent();
        Check.end();
    }

    private static void columnsAndRows() {
        TableSplice x = Filled.forked(3, 0, 2, 23);
        x.addColumn(1, 7, 1);
        x.addRow(2, 5);
        x.dropColumn(0, 1);
        x.merge();
        Check.due("columns(0)", x.columns(0), 0b101);
        Check.due("columns(1)", x.columns(1), 0b10000111);
        Check.due("columns(2)", x.columns(2), 0b111);
        Check.due("columns(3)", x.columns(3), 0b10000111);
        Check.due("rows(0)", x.rows(0), 0b101 | 1 << 23);
        Check.due("rows(1)", x.rows(1), 0b101 | 1 << 23);
        Check.due("rows(2)", x.rows(2), 0b100101 | 1 << 23);
        Check.due("rows(3)", x.rows(3), 0b100101 | 1 << 23);
        Check.throwsOut("columns(4)", () -> x.columns(4));
        Check.throwsOut("columns(-1)", () -> x.columns(-1));
        Check.throwsOut("rows(4)", () -> x.rows(4));
        Check.throwsOut("rows(-1)", () -> x.rows(-1));
    }

    private static void name() {
        TableSplice x = Filled.forked(2);
        x.rename(1, 1, 99);
        x.addColumn(2, 7, 0);
        x.merge();
        Check.due("name(0, 1)", x.name(0, 1), 11);
        Check.due("name(1, 1)", x.name(1, 1), 99);
        Check.due("name(2, 7)", x.name(2, 7), 0);
        Check.due("name(3, 1)", x.name(3, 1), 99);
        Check.due("name(3, 7)", x.name(3, 7), 0);
        Check.throwsOut("name of table 4", () -> x.name(4, 0));
        Check.throwsOut("name of table -1", () -> x.name(-1, 0));
        Check.throwsOut("name of a column not had", () -> x.name(1, 7));
        Check.throwsOut("name of a merged column not had", () -> x.name(3, 2));
        Check.throwsOut("name of 8", () -> x.name(0, 8));
        Check.throwsOut("name of -1", () -> x.name(0, -1));
        Check.throwsOut("name of 32", () -> x.name(0, 32));
    }

    private static void get() {
        TableSplice x = Filled.forked(2, 3);
        x.set(0, 3, 1, 5);
        x.set(1, 3, 1, 6);
        x.set(2, 3, 1, 5);
        x.merge();
        Check.due("get(0, 3, 1)", x.get(0, 3, 1), 5);
        Check.due("get(1, 3, 1)", x.get(1, 3, 1), 6);
        Check.due("get(2, 3, 1)", x.get(2, 3, 1), 5);
        Check.due("get(3, 3, 1)", x.get(3, 3, 1), 6);
        Check.throwsOut("get of table 4", () -> x.get(4, 3, 1));
        Check.throwsOut("get of table -1", () -> x.get(-1, 3, 1));
        Check.throwsOut("get of a row not had", () -> x.get(0, 2, 1));
        Check.throwsOut("get of a column not had", () -> x.get(0, 3, 2));
        Check.throwsOut("get of row 24", () -> x.get(0, 24, 1));
        Check.throwsOut("get of row 35", () -> x.get(0, 35, 1));
        Check.throwsOut("get of row -1", () -> x.get(0, -1, 1));
        Check.throwsOut("get of column 8", () -> x.get(0, 3, 8));
        Check.throwsOut("get of column -1", () -> x.get(0, 3, -1));
        Check.throwsOut("get of a merged row not had", () -> x.get(3, 2, 1));
        // the merged table stays as it was merged, whatever the tables are filled with then
        x.set(1, 3, 1, 7);
        Check.due("get(3, 3, 1) later", x.get(3, 3, 1), 6);
        x.dropColumn(1, 1);
        Check.due("get(3, 3, 1) after a drop", x.get(3, 3, 1), 6);
    }

    private static void changes() {
        for (int side = 1; side <= 2; side++) {
            TableSplice x = Filled.forked(4, 0, 1, 2);
            Check.due("changes of none", x.changes(side), 0);
            x.addColumn(side, 7, 1);
            Check.due("changes: a column came", x.changes(side), 1);
            x.addRow(side, 23);
            Check.due("changes: a row came", x.changes(side), 2);
            x.set(side, 23, 0, 5);
            x.set(side, 0, 7, 5);
            Check.due("changes: cells that came are none", x.changes(side), 2);
            x.dropColumn(side, 3);
            Check.due("changes: a column went", x.changes(side), 3);
            x.removeRow(side, 2);
            Check.due("changes: a row went", x.changes(side), 4);
            x.rename(side, 1, 50);
            Check.due("changes: a name", x.changes(side), 5);
            x.set(side, 0, 0, 5);
            x.set(side, 1, 1, 6);
            Check.due("changes: cells", x.changes(side), 7);
            x.set(side, 0, 0, 0);
            x.rename(side, 1, 11);
            Check.due("changes: taken back", x.changes(side), 5);
            Check.due("changes of the other side", x.changes(3 - side), 0);
        }
        TableSplice x = new TableSplice();
        Check.throwsOut("changes(0)", () -> x.changes(0));
        Check.throwsOut("changes(3)", () -> x.changes(3));
        Check.throwsOut("changes(-1)", () -> x.changes(-1));
    }

    private static void changesOfWhatCameAndWent() {
        TableSplice x = Filled.forked(1, 0);
        x.set(0, 0, 0, 5);
        Check.due("changes: the base's cell is another one", x.changes(1), 1);
        x.dropColumn(1, 0);
        x.addColumn(1, 0, 10);
        Check.due("changes: dropped and added again", x.changes(1), 1);
        x.set(1, 0, 0, 5);
        Check.due("changes: as before again", x.changes(1), 0);
        x.dropColumn(0, 0);
        x.removeRow(0, 0);
        Check.due("changes: gone from the base", x.changes(1), 2);
    }
}
