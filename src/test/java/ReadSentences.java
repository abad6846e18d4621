/** Promises 10 to 14: what a table has. */
final class ReadSentences {
    private static final String NO_TABLE = "-1|4|MIN|MAX";
    static final String NO_COLUMN = "-1|8|31|32|33|MIN|MAX";
    static final String NO_KEY = "-1|24|31|32|33|MIN|MAX";
    static final String NO_SIDE = "-1|0|3|4|MIN|MAX";

    private ReadSentences() {
    }

    static void hold(Document document) {
        columns(document.section("Promise 10: columns"));
        rows(document.section("Promise 11: rows"));
        name(document.section("Promise 12: name"));
        get(document.section("Promise 13: get"));
        changes(document.section("Promise 14: changes"));
    }

    private static void columns(Document.Section promise) {
        promise.says("Returns the columns of a table.")
                .run(States.AT_ODDS, "columns(0..3) == 15|15|14|15")
                .run(States.SETTLED, "columns(0..3) == 15|15|14|15")
                .run(States.ACCEPTED, "columns(0..3) == 15|15|15|0");
        promise.says("`table`: 0 to 3")
                .run("columns(0..3) == 0; columns(" + NO_TABLE + ") ! out");
        promise.says("Returns the set of them, the bit c for the column c.")
                .run("addColumn(0, 0|7, 5); columns(0) == 0x81; dropColumn(0, 0)",
                        "columns(0) = 0x80")
                .run("addColumn(1, 0, 5); columns(1) = 1; addColumn(1, 1, 5); columns(1) = 3",
                        "addColumn(1, 2, 5); columns(1) = 7; addColumn(1, 3..7, 5)",
                        "columns(1) = 255",
                        "merge(); columns(0..3) = 0|255|0|255", "dropColumn(1, 0..7)",
                        "columns(0..3) = 0|0|0|255; merge(); columns(3) = 0");
        promise.says("Throws `IndexOutOfBoundsException` if there is no such table")
                .runInEach(States.ALL, "columns(" + NO_TABLE + ") ! out");
    }

    private static void rows(Document.Section promise) {
        promise.says("Returns the rows of a table.")
                .run(States.AT_ODDS, "rows(0..3) == 3|1|3|3")
                .run(States.SETTLED, "rows(0..3) == 3|1|3|1")
                .run(States.ACCEPTED, "rows(0..3) == 1|1|1|0");
        promise.says("`table`: 0 to 3")
                .run("rows(0..3) == 0; rows(" + NO_TABLE + ") ! out");
        promise.says("Returns the set of them, the bit k for the key k.")
                .run("addRow(0, 0|23); rows(0) == 0x800001; removeRow(0, 0); rows(0) = 0x800000")
                .run("addRow(1, 0); rows(1) = 1; addRow(1, 1); rows(1) = 3; addRow(1, 2..22)",
                        "rows(1) = 0x7fffff; addRow(1, 23); rows(1) = 0xffffff; merge()",
                        "rows(0..3) = 0|0xffffff|0|0xffffff; removeRow(1, 0..23)",
                        "rows(0..3) = 0|0|0|0xffffff; merge(); rows(3) = 0");
        promise.says("Throws `IndexOutOfBoundsException` if there is no such table")
                .runInEach(States.ALL, "rows(" + NO_TABLE + ") ! out");
    }

    private static void name(Document.Section promise) {
        promise.says("Returns the name of a column of a table.")
                .run(States.AT_ODDS, "name(0, 0..3) == 10+#; name(1, 0..3) == 50|51|12|51",
                        "name(2, 1..3) == 52|12|13; name(3, 0..3) == 50|51|12|51")
                .run("addColumn(0..2, 0, 0); addColumn(0..2, 7, 99); merge() = 0",
                        "name(0..3, 0|7) = 0|99|0|99|0|99|0|99");
        promise.says("`table`: 0 to 3")
                .run("addColumn(0..2, 4, 5); merge(); name(0..3, 4) = 5; name(" + NO_TABLE
                        + ", 4) ! out");
        promise.says("`column`: 0 to 7")
                .run(States.FULL_BASE, "fork(); merge(); name(0..3, 0|7) = 10|17|10|17|10|17|10|17",
                        "name(0..3, " + NO_COLUMN + ") ! out");
        promise.says("Throws `IndexOutOfBoundsException` if there is no such table, or it does not"
                + " have the column")
                .runInEach(States.ALL, "name(" + NO_TABLE + ", 0|6) ! out",
                        "name(0..3, 6|7|" + NO_COLUMN + ") ! out")
                .run("name(0..3, 0..7) ! out")
                .run(States.FULL_BASE, "fork(); dropColumn(1, 0|7); merge() = 0",
                        "name(1|3, 0|7) ! out; name(0|2, 0|7) = 10|17|10|17; name(0..3, 1) = 11",
                        "fork(); name(1, 0|7) = 10|17; name(3, 0..7) ! out")
                // settling may remove a column that was merged
                .run(States.AT_ODDS, "name(3, 0) = 50; settle(0, 2) = 5; name(3, 0) ! out");
    }

    private static void get(Document.Section promise) {
        promise.says("Returns a cell of a table.")
                .run(States.AT_ODDS, "get(0, 0..1, 0..3) == 0; get(1, 0, 0..3) == 0|0|3|0",
                        "get(2, 0..1, 1..3) == 0|4|20|0|5|0",
                        "get(3, 0..1, 0..3) == 0|0|3|20|0|0|5|0");
        promise.says("`table`: 0 to 3")
                .run("addColumn(0..2, 4, 5); addRow(0..2, 9); set(0..2, 9, 4, -9999)",
                        "set(1, 9, 4, 9999)",
                        "merge() = 0; get(0..3, 9, 4) = -9999|9999|-9999|9999",
                        "get(" + NO_TABLE + ", 9, 4) ! out");
        promise.says("`key`: 0 to 23")
                .run(States.FULL_BASE, "set(0, 0|23, 4, 1+#); fork(); merge()",
                        "get(0..3, 0|23, 4) = 1|2|1|2|1|2|1|2; get(0..3, " + NO_KEY + ", 4) ! out");
        promise.says("`column`: 0 to 7")
                .run(States.FULL_BASE, "set(0, 9, 0|7, 1+#); fork(); merge()",
                        "get(0..3, 9, 0|7) = 1|2|1|2|1|2|1|2; get(0..3, 9, " + NO_COLUMN
                        + ") ! out");
        promise.says("Throws `IndexOutOfBoundsException` if there is no such table, or it does not"
                + " have the row or the column")
                .runInEach(States.ALL, "get(" + NO_TABLE + ", 0|6, 0|6) ! out",
                        "get(0..3, 0|6|" + NO_KEY + ", 6|" + NO_COLUMN + ") ! out",
                        "get(0..3, 6|23|" + NO_KEY + ", 0) ! out")
                .run("addColumn(0..2, 0..7, 5); merge(); get(0..3, 0|1|22|23, 0..7) ! out")
                .run("addRow(0..2, 0..23); merge(); get(0..3, 0|1|22|23, 0..7) ! out")
                .run(States.AT_ODDS, "get(3, 0..1, 0) = 0; settle(0, 2); get(3, 0..1, 0) ! out",
                        "get(3, 1, 1..3) = 0|5|0; settle(2, 1); get(3, 1, 1..3) ! out");
    }

    private static void changes(Document.Section promise) {
        promise.says("Counts the changes of a side: the columns and rows that it has and the base"
                + " does not, those that the base has and it does not, the columns that it has"
                + " another name for, and the cells that it changed.")
                .run(States.FORKED, "addColumn(1, 7, 5); changes(1..2) == 1|0")
                .run(States.FORKED, "addRow(1, 23); changes(1..2) == 1|0")
                .run(States.FORKED, "dropColumn(2, 0); changes(1..2) == 0|1")
                .run(States.FORKED, "removeRow(2, 0); changes(1..2) == 0|1")
                .run(States.FORKED, "rename(1, 0, 50); changes(1..2) == 1|0")
                .run(States.FORKED, "set(1, 0, 0, 1); changes(1..2) == 1|0")
                // what the base alone changed counts for both sides
                .run(States.FORKED, "addColumn(0, 7, 5); changes(1..2) == 1; addRow(0, 23)",
                        "changes(1..2) == 2; rename(0, 0, 50); changes(1..2) == 3",
                        "set(0, 0, 0, 1); changes(1..2) == 4; dropColumn(0, 0); changes(1..2) == 3",
                        "removeRow(0, 0); changes(1..2) == 4")
                // cells that came or went with a row or a column are none, nor are their names
                .run(States.FORKED, "addColumn(1, 7, 5); set(1, 0..1, 7, 9); changes(1) = 1",
                        "addRow(1, 23); set(1, 23, 0..1, 9); set(1, 23, 7, 9); changes(1) = 2",
                        "rename(1, 7, 6); changes(1) = 2; set(1, 0, 0, 9); rename(1, 0, 9)",
                        "changes(1) = 4; removeRow(1, 0); changes(1) = 4; dropColumn(1, 0)",
                        "changes(1) = 4");
        promise.says("`side`: 1 or 2")
                .run(States.FORKED, "set(2, 0, 0, 1); changes(1|2) = 0|1; changes(" + NO_SIDE
                        + ") ! out");
        promise.says("Returns how many.")
                .run("changes(1..2) == 0")
                .run(States.FORKED, "changes(1..2) == 0")
                .run(States.FULL_BASE, "changes(1..2) == 32; fork(); changes(1..2) == 0",
                        "rename(1, 0..7, 50); changes(1) = 8; set(1, 0..23, 0..7, 1)",
                        "changes(1..2) = 200|0")
                .run("addColumn(2, 0..7, 5); addRow(2, 0..23); changes(1..2) == 0|32")
                .run("addColumn(0, 0..3, 5); addRow(0, 0..11); addColumn(1, 4..7, 5)",
                        "addRow(1, 12..23); changes(1..2) == 32|16")
                .run(States.FORKED, "set(1, 1, 1, 5); rename(1, 1, 12); changes(1) = 2",
                        "set(1, 1, 1, 0); rename(1, 1, 11); changes(1) = 0");
        promise.says("Throws `IndexOutOfBoundsException` if there is no such side")
                .runInEach(States.ALL, "changes(" + NO_SIDE + ") ! out");
    }
}
