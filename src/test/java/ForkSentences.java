/** Promises 15 to 18: forking, merging, accepting, and a merged cell found by changes. */
final class ForkSentences {
    private ForkSentences() {
    }

    static void hold(Document document) {
        fork(document.section("Promise 15: fork"));
        merge(document.section("Promise 16: merge"));
        accept(document.section("Promise 17: accept"));
        cellByChanges(document.section("Promise 18: cellByChanges"));
    }

    private static void fork(Document.Section promise) {
        promise.says("Makes both sides like the base.")
                .run("addColumn(1..2, 0|7, 5); addRow(1..2, 0|23); set(1..2, 0|23, 0|7, 8)",
                        "fork() = 0; columns(0..3) = 0; rows(0..3) = 0; changes(1..2) = 0",
                        "addColumn(1..2, 0|7, 5); addRow(1..2, 0|23); get(1..2, 0|23, 0|7) = 0")
                .run(States.FULL_BASE, "set(0, 0|23, 0|7, 1+#); rename(0, 7, 99); fork() = 192",
                        "columns(1..2) = 255; rows(1..2) = 0xffffff; name(1..2, 0|7) = 10|99|10|99",
                        "get(1..2, 0|23, 0|7) = 1|2|3|4|1|2|3|4; get(1..2, 1|22, 1|6) = 0",
                        // from then on each has its own cells and names
                        "set(1, 0, 0, 50); rename(1, 0, 50); get(0..2, 0, 0) = 1|50|1",
                        "name(0..2, 0) = 10|50|10; set(0, 23, 7, 60); get(0..2, 23, 7) = 60|4|4")
                .run(States.AT_ODDS, "fork() = 8; changes(1..2) = 0; columns(1..2) = 15",
                        "rows(1..2) = 3; name(1..2, 1) = 11; get(1..2, 0, 2) = 0");
        promise.says("The merged table is emptied, and no conflicts are listed.")
                .runInEach(States.ALL, "fork(); columns(3) == 0; rows(3) == 0",
                        "name(3, 0..7) ! out; get(3, 0..1, 0..1) ! out; conflicts() == 0",
                        "open() == 0; kindOf(0) ! out; keyOf(0) ! out; columnOf(0) ! out",
                        "settle(0, 1..2) ! out; accept() ! state")
                // nothing of the emptied table comes back with the next merge
                .run("addRow(1, 3); addColumn(1, 3, 3); set(1, 3, 3, 9); merge(); fork()",
                        "addRow(1, 3); addColumn(2, 3, 3); merge() = 0; get(3, 3, 3) = 0");
        promise.says("Returns how many cells the base has.")
                .run("fork() = 0; addColumn(0, 0..7, 5); fork() = 0; addRow(0, 0); fork() = 8",
                        "addRow(0, 1..23); fork() = 192; dropColumn(0, 1..7); fork() = 24",
                        "removeRow(0, 1..23); fork() = 1; dropColumn(0, 0); fork() = 0")
                .run("addRow(0, 0..23); fork() = 0")
                .run("addColumn(1..2, 0, 5); addRow(1..2, 0); fork() = 0");
    }

    private static void merge(Document.Section promise) {
        promise.says("Merges: fills the merged table anew, from the base and the sides as they are"
                + " now, and lists the conflicts anew.")
                .run("merge() = 0; columns(3) == 0; rows(3) == 0; list = ; accept() = 0")
                .run(States.FULL_BASE, "set(0, 0|23, 0|7, 1+#); fork() = 192; merge() = 0",
                        "columns(3) = 255; rows(3) = 0xffffff; name(3, 0..7) = 10+#",
                        "get(3, 0|23, 0|7) = 1+#; get(3, 1|22, 1|6) = 0")
                // nothing of the merge before stays, and what was settled is open again
                .run(States.SETTLED, "merge() = 6; open() = 6; rows(3) = 3; name(3, 1) = 51;"
                        + States.LIST_AT_ODDS, "settle(0..5, 1) = 5|4|3|2|1|0; accept() = 4")
                .run("addColumn(1, 0..7, 5); addRow(1, 0..23); set(1, 0|23, 0|7, 9); merge() = 7",
                        "removeRow(1, 0..23); merge() = 7; columns(3) = 255; rows(3) = 0",
                        "dropColumn(1, 0..7); addRow(1, 0|23); merge() = 0; columns(3) = 0",
                        "list = ",
                        "addColumn(2, 0|7, 5); merge() = 1; rows(3) = 0x800001; columns(3) = 0x81",
                        "get(3, 0|23, 0|7) = 0; list = 5:-1:7")
                // the base and the sides stay
                .run(States.AT_ODDS, "merge() = 6; merge() = 6; columns(0..2) = 15|15|14",
                        "rows(0..2) = 3|1|3; name(0..1, 0) = 10|50; get(0..2, 0, 2) = 0|3|4",
                        "changes(1..2) = 5|5");
        promise.says("Returns how many conflicts there are.")
                .run("merge() = 0").run(States.AT_ODDS, "merge() = 6; conflicts() = 6")
                .run(States.FULL_LIST, "conflicts() = 399; open() = 399; merge() = 399")
                // the most of the kinds 2 and 3: each row and column of a full base at odds
                .run(States.FULL_BASE, "fork(); set(1, 0..23, 0, 50); set(1, 0, 1..7, 50)",
                        "dropColumn(2, 0..7); removeRow(2, 0..23); merge() = 32",
                        "rows(3) = 0xffffff",
                        "columns(3) = 255; kindOf(0..7) = 3; columnOf(0..7) = 0+#",
                        "kindOf(8..31) = 2",
                        "keyOf(8..31) = 0+#; settle(0..31, 2); columns(3) = 0; rows(3) = 0",
                        "accept() = 0; columns(0..2) = 0; rows(0..2) = 0");
    }

    private static void accept(Document.Section promise) {
        promise.says("Makes the base like the merged table, and then does what fork() does.")
                .run(States.AGREED, "addRow(2, 23); addColumn(1, 7, 99); merge() = 0",
                        "accept() = 9; columns(0..3) = 0x83|0x83|0x83|0; name(0..2, 7) = 99",
                        "rows(0..3) = 0x800003|0x800003|0x800003|0; get(0..2, 1, 1) = 7",
                        "get(0..2, 0|23, 0|7) = 0; changes(1..2) = 0; list = ; accept() ! state")
                .run(States.SETTLED, "accept() = 4; columns(0..3) = 15|15|15|0",
                        "rows(0..3) = 1|1|1|0",
                        "name(0, 0..3) = 50|51|12|51; get(0, 0, 0..3) = 0|0|3|20; list = ",
                        "get(3, 0, 0..3) ! out; name(3, 0..3) ! out; changes(1..2) = 0")
                // what one side removed is gone from the base, and comes back with nothing in it
                .run(States.AGREED, "set(0..2, 0..1, 0..1, 6); removeRow(1, 1); merge() = 0",
                        "accept() = 2; addRow(0, 1); get(0, 1, 0..1) = 0; dropColumn(2, 1)",
                        "merge(); accept() = 1; addColumn(0, 1, 5); get(0, 0, 1) = 0")
                // the rules and the references stay
                .run(States.FORKED, "setRule(0, 3); setRule(7, 2); setReference(1, true); merge()",
                        "accept() = 4",
                        "setRule(0..7, 0) = 3|0|0|0|0|0|0|2; setReference(1|2, true) = false|true");
        promise.says("Returns how many cells the base has then.")
                .run("merge(); accept() = 0; addColumn(1, 0..7, 10+#); merge(); accept() = 0",
                        "addRow(2, 0); merge(); accept() = 8; addRow(1, 1..23); merge()",
                        "accept() = 192; removeRow(1, 0..22); merge(); accept() = 8",
                        "dropColumn(2, 1..7); merge(); accept() = 1; removeRow(1, 23); merge()",
                        "accept() = 0; columns(0..2) = 1; rows(0..2) = 0")
                .run("addRow(1, 0..23); merge() = 0; accept() = 0; rows(0..2) = 0xffffff");
        promise.says("Throws `IllegalStateException` if the list is not fresh, or some conflict is"
                + " not settled")
                .runInEach(States.NOT_TO_ACCEPT, "accept() ! state")
                .run(States.AT_ODDS, "settle(0, 1); accept() ! state; settle(5, 1)",
                        "accept() ! state",
                        "settle(1, 1); accept() ! state; settle(4, 1); accept() ! state",
                        "settle(2, 1); accept() ! state; settle(3, 1) = 0; accept() = 4")
                .run(States.FULL_LIST, "settle(300..398, 1); accept() ! state")
                .run(States.FULL_BASE, "fork(); accept() ! state; merge() = 0; accept() = 192");
    }

    private static void cellByChanges(Document.Section promise) {
        Document.Sentence same = promise.says("Returns what a cell of the merged table would be, by"
                + " merging now, found by taking the changes of each side, one by one, into the"
                + " base; the same as what merge() would make it.")
                .run(States.FORKED, "set(1, 1, 1, 7); cellByChanges(1, 1) == 7; set(2, 1, 1, 8)",
                        "cellByChanges(1, 1) == 7; setRule(1, 2); cellByChanges(1, 1) == 8",
                        "setRule(1, 3); cellByChanges(1, 1) == 15; columns(3) = 0; rows(3) = 0")
                // as it would be by merging now, not as it was merged, or settled
                .run(States.AT_ODDS, "settle(3, 2); get(3, 0, 2) = 4; cellByChanges(0, 2) == 3",
                        "set(1, 0, 2, 9); cellByChanges(0, 2) == 9; get(3, 0, 2) = 4")
                .run(States.sumBeyondAnInt(), "cellByChanges(0, 0) == -1673799439; merge() = 0",
                        "get(3, 0, 0) = -1673799439");
        for (String state : States.ALL) {
            sameAsMergedInEachCell(same.text, state);
        }
        for (int rowsHad = 0; rowsHad < 8; rowsHad++) {
            for (int columnsHad = 0; columnsHad < 8; columnsHad++) {
                sameAsMergedByEachRule(same.text, rowsHad, columnsHad);
            }
        }
        promise.says("`key`: 0 to 23")
                .run(States.FULL_BASE, "set(0, 0|23, 3, 1+#); fork()",
                        "cellByChanges(0|23, 3) == 1+#",
                        "cellByChanges(" + ReadSentences.NO_KEY + ", 3) ! out");
        promise.says("`column`: 0 to 7")
                .run(States.FULL_BASE, "set(0, 3, 0|7, 1+#); fork(); cellByChanges(3, 0|7) == 1+#",
                        "cellByChanges(3, " + ReadSentences.NO_COLUMN + ") ! out");
        promise.says("Returns the number; 0 if the merged table would not have the cell.")
                .run("cellByChanges(0|1|22|23, 0..7) == 0")
                .run("addColumn(0..2, 0..7, 5); cellByChanges(0|23, 0|7) == 0")
                .run("addRow(0..2, 0..23); cellByChanges(0|23, 0|7) == 0")
                .run(States.FORKED, "set(0..2, 0..1, 0..1, 6); cellByChanges(0..2, 0..2)"
                        + " == 6|6|0|6|6|0|0|0|0", "removeRow(1, 1)",
                        "cellByChanges(1, 0..1) == 0; dropColumn(2, 1); cellByChanges(0, 1) == 0")
                .run(States.FORKED, "set(0..2, 0..1, 0..1, 6); removeRow(1..2, 0)",
                        "dropColumn(1..2, 0); cellByChanges(0..1, 0..1) == 0|0|0|6")
                // the base alone has the cell of a row and a column that the sides keep
                .run(States.FORKED, "set(0..2, 0, 0, 6); set(2, 0, 1, 5); removeRow(1, 0)",
                        "dropColumn(2, 0); set(1, 1, 0, 5); cellByChanges(0, 0) == 0; merge() = 2",
                        "get(3, 0, 0) = 0");
        promise.says("Throws `IndexOutOfBoundsException` if there is no such key or column number")
                .runInEach(States.ALL, "cellByChanges(" + ReadSentences.NO_KEY + ", 0|7|8) ! out",
                        "cellByChanges(0|23, " + ReadSentences.NO_COLUMN + ") ! out");
    }

    private static void sameAsMergedInEachCell(String what, String rows) {
        TableSplice asked = Run.made(what, rows);
        TableSplice x = Run.made(what, rows);
        x.merge();
        for (int key = 0; key <= 23; key++) {
            for (int column = 0; column <= 7; column++) {
                Check.due(what + " " + key + " " + column, asked.cellByChanges(key, column),
                        mergedOr0(x, key, column));
            }
        }
    }

    /** The bit t of the sets tells whether the table t has the row 23, or the column 7. */
    private static void sameAsMergedByEachRule(String what, int rowsHad, int columnsHad) {
        int[][] numbers = {{4, 4, 4}, {4, 5, 4}, {4, 4, 5}, {4, 5, 5}, {4, 5, 6}, {4, 6, 5},
            {0, -9999, 9999}, {9999, -9999, -9998}};
        for (int rule = 0; rule <= 3; rule++) {
            for (int[] bot : numbers) {
                for (int[] edge : numbers) {
                    TableSplice x = new TableSplice();
                    x.setRule(7, rule);
                    for (int table = 0; table <= 2; table++) {
                        fillCorner(x, table, (rowsHad >> table & 1) == 1,
                                (columnsHad >> table & 1) == 1, bot[table], edge[table]);
                    }
                    int found = x.cellByChanges(23, 7);
                    x.merge();
                    Check.due(what + " rows " + rowsHad + ", columns " + columnsHad + ", rule "
                            + rule, found, mergedOr0(x, 23, 7));
                }
            }
        }
    }

    /** With edges in the row 0 and the column 0, by which a row or column may be kept, too. */
    private static void fillCorner(TableSplice x, int table, boolean row, boolean column,
            int cell, int edge) {
        x.addRow(table, 0);
        x.addColumn(table, 0, 5);
        if (row) {
            x.addRow(table, 23);
            x.set(table, 23, 0, edge);
        }
        if (column) {
            x.addColumn(table, 7, 6);
            x.set(table, 0, 7, edge);
        }
        if (row && column) {
            x.set(table, 23, 7, cell);
        }
    }

    private static int mergedOr0(TableSplice x, int key, int column) {
        boolean has = (x.rows(3) >> key & 1) == 1 && (x.columns(3) >> column & 1) == 1;
        return has ? x.get(3, key, column) : 0;
    }
}
