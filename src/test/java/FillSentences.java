/** Promises 1 to 9: a new object, and the eight calls that fill or set. */
final class FillSentences {
    private static final String NO_TABLE = "-1|3|4|MIN|MAX";
    private static final String NO_COLUMN = ReadSentences.NO_COLUMN;
    private static final String NO_KEY = ReadSentences.NO_KEY;

    private FillSentences() {
    }

    static void hold(Document document) {
        newObject(document.section("Promise 1: A new object"));
        addColumn(document.section("Promise 2: addColumn"));
        dropColumn(document.section("Promise 3: dropColumn"));
        rename(document.section("Promise 4: rename"));
        addRow(document.section("Promise 5: addRow"));
        removeRow(document.section("Promise 6: removeRow"));
        set(document.section("Promise 7: set"));
        setRule(document.section("Promise 8: setRule"));
        setReference(document.section("Promise 9: setReference"));
    }

    private static void newObject(Document.Section promise) {
        promise.says("Creates four empty tables.")
                .run("columns(0..3) == 0; rows(0..3) == 0; changes(1..2) == 0")
                .run("name(0..3, 0..7) ! out")
                .run("get(0..3, 0|23, 0..7) ! out")
                .run("dropColumn(0..2, 0..7) ! out; removeRow(0..2, 0..23) ! out")
                .run("conflicts() == 0; open() == 0; accept() ! state; fork() = 0; merge() = 0");
        // an object has nothing of another one
        TableSplice one = new TableSplice();
        one.addColumn(0, 7, 99);
        one.addRow(0, 23);
        TableSplice other = new TableSplice();
        Check.due("a second object's columns", other.columns(0), 0);
        Check.due("a second object's rows", other.rows(0), 0);
    }

    private static void addColumn(Document.Section promise) {
        promise.says("Adds a column to a table.")
                .run("addColumn(0..2, 0|7, 5) = 1|2|1|2|1|2; columns(0..2) = 0x81; columns(3) = 0",
                        "rows(0..3) = 0; name(0..2, 0|7) = 5")
                .run("addColumn(1, 4, 9); columns(0..3) = 0|0x10|0|0; name(0|2|3, 4) ! out");
        promise.says("Its cells are 0.")
                .run("addRow(0..2, 0|23); addColumn(0..2, 0|7, 1); get(0..2, 0|23, 0|7) = 0")
                .run("addRow(1, 0|23); addColumn(1, 0|7, 1); set(1, 0|23, 0|7, 5)",
                        "dropColumn(1, 0|7); addColumn(1, 0|7, 1); get(1, 0|23, 0|7) = 0")
                .run("addRow(2, 0..23) = 1+#; addColumn(2, 3, 1); get(2, 0..23, 3) = 0")
                // forking and accepting leave nothing in a table that could come back
                .run("addColumn(1, 4, 1); addRow(1, 5); set(1, 5, 4, 6); fork() = 0",
                        "addColumn(1, 4, 1); addRow(1, 5); get(1, 5, 4) = 0");
        promise.says("`table`: 0 to 2")
                .run("addColumn(0..2, 3, 5) = 1; addColumn(" + NO_TABLE + ", 4, 5) ! out");
        promise.says("`column`: 0 to 7")
                .run("addColumn(0, 0|7, 5) = 1+#; addColumn(0, " + NO_COLUMN + ", 5) ! out");
        promise.says("`name`: 0 to 99")
                .run("addColumn(0, 0, 0) = 1; addColumn(0, 1, 99) = 2; name(0, 0|1) = 0|99",
                        "addColumn(0, 2, -1|100|MIN|MAX) ! argument");
        promise.says("Returns how many columns the table has then.")
                .run("addColumn(1, 7|0|3|1|2|6|5|4, 20) = 1+#; addColumn(2, 4, 20) = 1")
                .run(States.FULL_BASE, "dropColumn(0, 7) = 17; addColumn(0, 7, 1) = 8");
        promise.says("Throws `IndexOutOfBoundsException` if there is no such table or column"
                + " number")
                .runInEach(States.ALL, "addColumn(" + NO_TABLE + ", 6, 5) ! out",
                        "addColumn(0..2, " + NO_COLUMN + ", 5) ! out");
        promise.says("Throws `IllegalArgumentException` if name is out of range")
                .runInEach(States.ALL, "addColumn(0..2, 6, -1|100|MIN|MAX) ! argument");
        promise.says("Throws `IllegalStateException` if the table has the column")
                .runInEach(States.FILLED, "addColumn(0..1, 0, 0|10|99) ! state")
                .run(States.FULL_BASE, "addColumn(0, 0..7, 0|99) ! state; fork() = 192",
                        "addColumn(1..2, 0..7, 5) ! state; columns(0..2) = 255")
                // what another table has does not matter
                .run("addColumn(0, 2, 5); addColumn(1, 2, 5) = 1; merge(); addColumn(2, 2, 5) = 1");
    }

    private static void dropColumn(Document.Section promise) {
        promise.says("Drops a column of a table, with its cells.")
                .run(States.FULL_BASE, "set(0, 0|23, 0..7, 8); fork() = 192; dropColumn(2, 0|7)",
                        "columns(0..2) = 255|255|0x7e; rows(2) = 0xffffff",
                        "get(2, 0|23, 0|7) ! out; get(2, 0|23, 1|6) = 8; get(0..1, 0|23, 0|7) = 8",
                        "addColumn(2, 0|7, 3); get(2, 0|23, 0|7) = 0; get(2, 0|23, 1|6) = 8");
        promise.says("`table`: 0 to 2")
                .run("addColumn(0..2, 3, 5); dropColumn(" + NO_TABLE + ", 3) ! out",
                        "merge() = 0; columns(3) = 8; dropColumn(3, 3) ! out",
                        "dropColumn(0..2, 3) = 5; columns(0..2) = 0");
        promise.says("`column`: 0 to 7")
                .run("addColumn(0, 0..7, 5); dropColumn(0, " + NO_COLUMN + ") ! out",
                        "dropColumn(0, 0|7) = 5; columns(0) = 0x7e");
        promise.says("Returns the name that it had.")
                .run("addColumn(0, 0, 0); addColumn(0, 7, 99); dropColumn(0, 0|7) = 0|99")
                .run("addColumn(1, 2, 6); rename(1, 2, 7); dropColumn(1, 2) = 7",
                        "addColumn(1, 2, 8); dropColumn(1, 2) = 8");
        promise.says("Throws `IndexOutOfBoundsException` if there is no such table, or it does not"
                + " have the column")
                .runInEach(States.ALL, "dropColumn(" + NO_TABLE + ", 0|6) ! out",
                        "dropColumn(0..2, 6|7|" + NO_COLUMN + ") ! out")
                .run("dropColumn(0..2, 0..7) ! out")
                .run(States.FULL_BASE, "dropColumn(0, 0..7) = 10+#; dropColumn(0, 0..7) ! out",
                        "columns(0) = 0; rows(0) = 0xffffff; fork() = 0");
    }

    private static void rename(Document.Section promise) {
        promise.says("Renames a column of a table.")
                .run(States.FORKED, "set(1, 1, 1, 7); rename(1, 1, 50); name(0..2, 1) = 11|50|11",
                        "name(1, 0) = 10; get(1, 1, 1) = 7; columns(1) = 3; rows(1) = 3")
                // two columns may have the same name
                .run(States.FORKED, "rename(1, 1, 10) = 11; name(1, 0..1) = 10");
        promise.says("`table`: 0 to 2")
                .run("addColumn(0..2, 3, 5); merge() = 0; rename(" + NO_TABLE + ", 3, 6) ! out",
                        "rename(0..2, 3, 6) = 5; name(0..3, 3) = 6|6|6|5");
        promise.says("`column`: 0 to 7")
                .run("addColumn(0, 0..7, 5); rename(0, " + NO_COLUMN + ", 6) ! out",
                        "rename(0, 0|7, 6) = 5; name(0, 0..7) = 6|5|5|5|5|5|5|6");
        promise.says("`name`: 0 to 99")
                .run("addColumn(0, 4, 5); rename(0, 4, 0|99) = 5|0; name(0, 4) = 99",
                        "rename(0, 4, -1|100|MIN|MAX) ! argument");
        promise.says("Returns the name before.")
                .run("addColumn(0, 4, 99); rename(0, 4, 0|99|99|1) = 99|0|99|99");
        promise.says("Throws `IndexOutOfBoundsException` if there is no such table, or it does not"
                + " have the column")
                .runInEach(States.ALL, "rename(" + NO_TABLE + ", 0|6, 5) ! out",
                        "rename(0..2, 6|7|" + NO_COLUMN + ", 5) ! out")
                .run("rename(0..2, 0..7, 5) ! out")
                .run(States.FULL_BASE, "fork() = 192; dropColumn(1, 0|7); rename(1, 0|7, 5) ! out");
        promise.says("Throws `IllegalArgumentException` if name is out of range")
                .runInEach(States.FILLED, "rename(0..1, 0..1, -1|100|MIN|MAX) ! argument");
    }

    private static void addRow(Document.Section promise) {
        promise.says("Adds a row to a table.")
                .run("addRow(0..2, 0|23) = 1|2|1|2|1|2; rows(0..2) = 0x800001; rows(3) = 0",
                        "columns(0..3) = 0")
                .run("addRow(1, 4); rows(0..3) = 0|0x10|0|0");
        promise.says("Its cells are 0.")
                .run("addColumn(0..2, 0|7, 1); addRow(0..2, 0|23); get(0..2, 0|23, 0|7) = 0")
                .run("addColumn(1, 0|7, 1); addRow(1, 0|23); set(1, 0|23, 0|7, 5)",
                        "removeRow(1, 0|23); addRow(1, 0|23); get(1, 0|23, 0|7) = 0")
                .run("addColumn(2, 0..7, 1); addRow(2, 3); get(2, 3, 0..7) = 0");
        promise.says("`table`: 0 to 2")
                .run("addRow(0..2, 3) = 1; addRow(" + NO_TABLE + ", 4) ! out");
        promise.says("`key`: 0 to 23")
                .run("addRow(0, 0|23) = 1+#; addRow(0, " + NO_KEY + ") ! out");
        promise.says("Returns how many rows the table has then.")
                .run("addRow(1, 12..23) = 1+#; addRow(1, 0..11) = 13+#; addRow(2, 4) = 1")
                .run(States.FULL_BASE, "removeRow(0, 23) = 23; addRow(0, 23) = 24");
        promise.says("Throws `IndexOutOfBoundsException` if there is no such table or key")
                .runInEach(States.ALL, "addRow(" + NO_TABLE + ", 6) ! out",
                        "addRow(0..2, " + NO_KEY + ") ! out");
        promise.says("Throws `IllegalStateException` if the table has the row")
                .runInEach(States.FILLED, "addRow(0..1, 0) ! state")
                .run(States.FULL_BASE, "addRow(0, 0..23) ! state; fork() = 192",
                        "addRow(1..2, 0|23) ! state; rows(0..2) = 0xffffff")
                .run("addRow(0, 2); addRow(1, 2) = 1; merge(); addRow(2, 2) = 1");
    }

    private static void removeRow(Document.Section promise) {
        promise.says("Removes a row of a table, with its cells.")
                .run(States.FULL_BASE, "set(0, 0..23, 0|7, 8); fork() = 192; removeRow(2, 0|23)",
                        "rows(0..2) = 0xffffff|0xffffff|0x7ffffe; columns(2) = 255",
                        "get(2, 0|23, 0|7) ! out; get(2, 1|22, 0|7) = 8; get(0..1, 0|23, 0|7) = 8",
                        "addRow(2, 0|23); get(2, 0|23, 0..7) = 0; get(2, 1|22, 0|7) = 8");
        promise.says("`table`: 0 to 2")
                .run("addRow(0..2, 3); removeRow(" + NO_TABLE + ", 3) ! out",
                        "merge() = 0; rows(3) = 8; removeRow(3, 3) ! out",
                        "removeRow(0..2, 3) = 0; rows(0..2) = 0");
        promise.says("`key`: 0 to 23")
                .run("addRow(0, 0..23); removeRow(0, " + NO_KEY + ") ! out",
                        "removeRow(0, 0|23) = 23|22; rows(0) = 0x7ffffe");
        promise.says("Returns how many rows the table has then.")
                .run("addRow(1, 0..3); addRow(2, 0); removeRow(1, 3|0|2|1) = 3|2|1|0");
        promise.says("Throws `IndexOutOfBoundsException` if there is no such table, or it does not"
                + " have the row")
                .runInEach(States.ALL, "removeRow(" + NO_TABLE + ", 0|6) ! out",
                        "removeRow(0..2, 6|23|" + NO_KEY + ") ! out")
                .run("removeRow(0..2, 0..23) ! out")
                .run(States.FULL_BASE, "removeRow(0, 0..11) = 23|22|21|20|19|18|17|16|15|14|13|12",
                        "removeRow(0, 12..23) = 11|10|9|8|7|6|5|4|3|2|1|0",
                        "removeRow(0, 0..23) ! out; rows(0) = 0; columns(0) = 255; fork() = 0");
    }

    private static void set(Document.Section promise) {
        promise.says("Sets a cell of a table.")
                .run(States.FULL_BASE, "fork(); set(1, 0|23, 0|7, 1+#); get(1, 0|23, 0|7) = 1+#",
                        "get(1, 0|23, 1|6) = 0; get(1, 1|22, 0|7) = 0; get(0|2, 0|23, 0|7) = 0");
        promise.says("`table`: 0 to 2")
                .run("addColumn(0..2, 3, 5); addRow(0..2, 4); merge() = 0",
                        "set(" + NO_TABLE + ", 4, 3, 1) ! out; set(0..2, 4, 3, 1) = 0",
                        "get(0..3, 4, 3) = 1|1|1|0");
        promise.says("`key`: 0 to 23")
                .run(States.FULL_BASE, "set(0, 0|23, 3, 1) = 0",
                        "set(0, " + NO_KEY + ", 3, 1) ! out");
        promise.says("`column`: 0 to 7")
                .run(States.FULL_BASE, "set(0, 3, 0|7, 1) = 0; set(0, 3, " + NO_COLUMN
                        + ", 1) ! out");
        promise.says("`value`: -9999 to 9999")
                .run(States.FORKED, "set(0, 1, 1, -9999|9999) = 0|-9999; get(0, 1, 1) = 9999",
                        "set(0, 1, 1, -10000|10000|MIN|MAX) ! argument");
        promise.says("Returns the number before.")
                .run(States.FORKED, "set(0, 1, 1, 9999|-9999|-9999|0|0) = 0|9999|-9999|-9999|0")
                .run(States.FULL_BASE, "set(0, 0|3|23, 0|3|7, 1+#) = 0",
                        "set(0, 0|3|23, 0|3|7, 5) = 1+#");
        promise.says("Throws `IndexOutOfBoundsException` if there is no such table, or it does not"
                + " have the row or the column")
                .runInEach(States.ALL, "set(" + NO_TABLE + ", 0|6, 0|6, 5) ! out",
                        "set(0..2, 0|6|" + NO_KEY + ", 6|" + NO_COLUMN + ", 5) ! out",
                        "set(0..2, 6|23|" + NO_KEY + ", 0, 5) ! out")
                .run("set(0..2, 0|23, 0..7, 5) ! out")
                .run("addColumn(0, 0..7, 5); set(0, 0..23, 0|7, 1) ! out")
                .run("addRow(0, 0..23); set(0, 0|23, 0..7, 1) ! out");
        promise.says("Throws `IllegalArgumentException` if value is out of range")
                .runInEach(States.FILLED, "set(0..1, 0, 0..1, -10000|10000|MIN|MAX) ! argument");
    }

    private static void setRule(Document.Section promise) {
        promise.says("Sets the rule of a column.")
                .run("setRule(0..7, 3) = 0; setRule(7, 1) = 3; setRule(0..6, 0) = 3")
                // also of a column that no table has
                .run("setRule(0, 1); addColumn(1..2, 0, 5); addRow(1..2, 0); set(1, 0, 0, 4)",
                        "merge() = 0; get(3, 0, 0) = 4; setRule(0, 0) = 1; merge() = 1");
        promise.says("`column`: 0 to 7")
                .run("setRule(0|7, 1) = 0; setRule(" + NO_COLUMN + ", 1) ! out");
        promise.says("`rule`: 0 to 3")
                .run("setRule(4, 3|2|1|0|3) = 0|3|2|1|0; setRule(4, -1|4|MIN|MAX) ! argument");
        promise.says("Returns the rule before.")
                .run("setRule(0|7, 0|1|1|2|3|0) = 0|0|1|1|2|3|0|0|1|1|2|3");
        promise.says("Throws `IndexOutOfBoundsException` if there is no such column number")
                .runInEach(States.ALL, "setRule(" + NO_COLUMN + ", 0|3) ! out");
        promise.says("Throws `IllegalArgumentException` if rule is out of range")
                .runInEach(States.ALL, "setRule(0|7, -1|4|MIN|MAX) ! argument");
    }

    private static void setReference(Document.Section promise) {
        promise.says("Makes a column a reference, or not one.")
                .run("addColumn(1, 7, 5); addRow(1, 3); setReference(7, true); merge() = 1",
                        "list = 6:3:7; setReference(7, false); merge() = 0")
                .run("addColumn(1, 6..7, 5+#); addRow(1, 3); setReference(7, true); merge() = 1",
                        "list = 6:3:7");
        promise.says("`column`: 0 to 7")
                .run("setReference(0|7, true) = true; setReference(" + NO_COLUMN + ", true) ! out");
        promise.says("`isReference`: true if its cells are keys of rows, or -1")
                .run("addColumn(1, 7, 5); addRow(1, 3); setReference(7, true); set(1, 3, 7, -1)",
                        "merge() = 0; set(1, 3, 7, 3); merge() = 0; set(1, 3, 7, -2); merge() = 1");
        promise.says("Returns true if that changes something.")
                .run("setReference(0..7, false) = false; setReference(0..7, true) = true",
                        "setReference(0..7, true) = false; setReference(7, false) = true",
                        "setReference(0..6, true) = false; setReference(7, false) = false");
        promise.says("Throws `IndexOutOfBoundsException` if there is no such column number")
                .runInEach(States.ALL, "setReference(" + NO_COLUMN + ", true|false) ! out");
    }
}
