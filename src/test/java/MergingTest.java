/** Promises 15 to 18: forking, merging, accepting, and a cell found by its changes. */
public final class MergingTest {
    private static final int NO_CONFLICT = 0;

    public static void main(String[] args) {
        fork();
        mergedColumns();
        mergedColumnThatOneSideDropped();
        mergedRows();
        mergedRowThatOneSideRemoved();
        mergedNames();
        mergedCellsOfOneSide();
        mergedCellsThatOneSideChanged();
        mergedCellsAtOdds();
        mergedSums();
        mergedCellThatNoSideHas();
        mergeAnew();
        accept();
        acceptRefuses();
        cellByChanges();
        Check.end();
    }

    private static void fork() {
        TableSplice x = new TableSplice();
        Check.due("fork of an empty base", x.fork(), 0);
        x.addColumn(0, 0, 1);
        x.addColumn(0, 7, 2);
        Check.due("fork without rows", x.fork(), 0);
        x.addRow(0, 0);
        x.addRow(0, 23);
        x.addRow(0, 9);
        x.set(0, 23, 7, 5);
        x.addColumn(1, 3, 3);
        x.addRow(2, 4);
        x.rename(1, 0, 55);
        x.dropColumn(2, 0);
        x.merge();
        Check.due("fork: a conflict before", x.conflicts(), 1);
        Check.due("fork", x.fork(), 6);
        for (int table = 0; table <= 2; table++) {
            Check.due("fork: columns", x.columns(table), 129);
            Check.due("fork: rows", x.rows(table), 1 | 1 << 9 | 1 << 23);
            Check.due("fork: name", x.name(table, 0), 1);
            Check.due("fork: cell", x.get(table, 23, 7), 5);
        }
        Check.due("fork: changes", x.changes(1) + x.changes(2), 0);
        Check.due("fork: merged columns", x.columns(3), 0);
        Check.due("fork: merged rows", x.rows(3), 0);
        Check.due("fork: conflicts", x.conflicts(), 0);
        Check.due("fork: open", x.open(), 0);
        Check.throwsState("fork: not fresh", x::accept);
        x.set(1, 23, 7, 6);
        Check.due("fork: sides are apart from the base", x.get(0, 23, 7), 5);
        x.addColumn(1, 3, 3);
        Check.due("fork: no old cell", x.get(1, 0, 3), 0);
    }

    /** Every way in which the base and the sides have a column that no side changed. */
    private static void mergedColumns() {
        boolean[] stays = {false, false, true, false, true, false, true, true};
        for (int state = 0; state < 8; state++) {
            TableSplice x = new TableSplice();
            for (int table = 0; table <= 2; table++) {
                if ((state >> table & 1) == 1) {
                    x.addColumn(table, 5, 9);
                }
            }
            Check.due("merge of columns " + state, x.merge(), NO_CONFLICT);
            Check.due("merge of columns " + state + ": has it", x.columns(3) == 32, stays[state]);
        }
    }

    private static void mergedColumnThatOneSideDropped() {
        for (int side = 1; side <= 2; side++) {
            TableSplice x = Filled.forked(1, 0);
            x.dropColumn(3 - side, 0);
            x.rename(side, 0, 50);
            Check.due("merge: renamed and dropped", x.merge(), 1);
            Check.dueList("merge: renamed and dropped", x, "3:-1:0");
            Check.due("merge: renamed and dropped: name", x.name(3, 0), 50);

            TableSplice y = Filled.forked(1, 0, 9);
            y.dropColumn(3 - side, 0);
            y.set(side, 9, 0, 5);
            Check.due("merge: changed and dropped", y.merge(), 1);
            Check.dueList("merge: changed and dropped", y, "3:-1:0");
            Check.due("merge: changed and dropped: cell", y.get(3, 9, 0), 5);
            Check.due("changes: changed and dropped", y.cellByChanges(9, 0), 5);

            TableSplice z = Filled.forked(1, 0);
            z.dropColumn(3 - side, 0);
            z.addRow(side, 1);
            z.set(side, 1, 0, 5);
            Check.due("merge: a cell in an added row is no change", z.merge(), NO_CONFLICT);
            Check.due("merge: a cell in an added row: columns", z.columns(3), 0);
        }
    }

    private static void mergedRows() {
        boolean[] stays = {false, false, true, false, true, false, true, true};
        for (int state = 0; state < 8; state++) {
            TableSplice x = new TableSplice();
            for (int table = 0; table <= 2; table++) {
                if ((state >> table & 1) == 1) {
                    x.addRow(table, 23);
                }
            }
            Check.due("merge of rows " + state, x.merge(), NO_CONFLICT);
            Check.due("merge of rows " + state + ": has it", x.rows(3) == 1 << 23, stays[state]);
        }
    }

    private static void mergedRowThatOneSideRemoved() {
        for (int side = 1; side <= 2; side++) {
            TableSplice x = Filled.forked(2, 4);
            x.removeRow(3 - side, 4);
            x.set(side, 4, 1, 5);
            Check.due("merge: changed and removed", x.merge(), 1);
            Check.dueList("merge: changed and removed", x, "2:4:-1");
            Check.due("merge: changed and removed: cell", x.get(3, 4, 1), 5);
            Check.due("changes: changed and removed", x.cellByChanges(4, 1), 5);

            TableSplice y = Filled.forked(1, 4);
            y.removeRow(3 - side, 4);
            y.rename(side, 0, 50);
            y.addColumn(side, 1, 51);
            y.set(side, 4, 1, 5);
            Check.due("merge: names and added cells change no row", y.merge(), NO_CONFLICT);
            Check.due("merge: names and added cells: rows", y.rows(3), 0);
        }
    }

    private static void mergedNames() {
        // the base's name, ours, theirs (0: the column is not there), the merged name, a conflict
        int[][] cases = {
            {1, 1, 1, 1, 0}, {1, 2, 1, 2, 0}, {1, 1, 2, 2, 0}, {1, 2, 2, 2, 0}, {1, 2, 3, 2, 1},
            {1, 3, 2, 3, 1}, {0, 2, 2, 2, 0}, {0, 2, 3, 2, 1}, {0, 3, 0, 3, 0}, {0, 0, 4, 4, 0},
        };
        for (int[] names : cases) {
            TableSplice x = new TableSplice();
            for (int table = 0; table <= 2; table++) {
                if (names[table] != 0) {
                    x.addColumn(table, 6, names[table]);
                }
            }
            String what = "merge of names " + names[0] + " " + names[1] + " " + names[2];
            Check.due(what, x.merge(), names[4]);
            Check.due(what + ": name", x.name(3, 6), names[3]);
            Check.dueList(what, x, names[4] == 1 ? "4:-1:6" : "");
        }
    }

    private static void mergedCellsOfOneSide() {
        for (int side = 1; side <= 2; side++) {
            for (int rule = 0; rule <= 3; rule++) {
                TableSplice x = Filled.forked(1, 0);
                x.setRule(0, rule);
                x.setRule(1, rule);
                x.set(0, 0, 0, 3);
                x.fork();
                x.addRow(side, 1);
                x.set(side, 1, 0, 5);
                x.addColumn(side, 1, 50);
                x.set(side, 0, 1, 6);
                x.set(side, 1, 1, 7);
                Check.due("merge of what one side added", x.merge(), NO_CONFLICT);
                Check.due("merge of an added row's cell", x.get(3, 1, 0), 5);
                Check.due("merge of an added column's cell", x.get(3, 0, 1), 6);
                Check.due("merge of an added cell", x.get(3, 1, 1), 7);
                Check.due("merge of the cell that stayed", x.get(3, 0, 0), 3);
                Check.due("changes of an added cell", x.cellByChanges(1, 1), 7);
            }
        }
        // a kept row's cell that one side alone has is that side's, also if it is a sum
        TableSplice x = Filled.oneCell(3, 5, 9, 5);
        x.removeRow(2, 0);
        x.merge();
        Check.due("merge of a kept row's sum", x.get(3, 0, 0), 9);
        Check.due("changes of a kept row's sum", x.cellByChanges(0, 0), 9);
    }

    private static void mergedCellsThatOneSideChanged() {
        for (int rule = 0; rule <= 3; rule++) {
            dueMerged(Filled.oneCell(rule, 4, 4, 4), 4, NO_CONFLICT);
            dueMerged(Filled.oneCell(rule, 4, 2, 4), 2, NO_CONFLICT);
            dueMerged(Filled.oneCell(rule, 4, 4, 2), 2, NO_CONFLICT);
            dueMerged(Filled.oneCell(rule, 4, 9, 4), 9, NO_CONFLICT);
            dueMerged(Filled.oneCell(rule, 4, 4, 9), 9, NO_CONFLICT);
            dueMerged(Filled.oneCell(rule, 0, 0, -9), -9, NO_CONFLICT);
            dueMerged(Filled.oneCell(rule, 0, -9, 0), -9, NO_CONFLICT);
        }
        for (int rule = 0; rule <= 2; rule++) {
            dueMerged(Filled.oneCell(rule, 4, 7, 7), 7, NO_CONFLICT);
            dueMerged(Filled.oneAddedCell(rule, 7, 7), 7, NO_CONFLICT);
        }
    }

    private static void mergedCellsAtOdds() {
        dueMerged(Filled.oneCell(0, 4, 6, 7), 6, 1);
        dueMerged(Filled.oneCell(0, 4, 7, 6), 7, 1);
        dueMerged(Filled.oneCell(1, 4, 6, 7), 6, NO_CONFLICT);
        dueMerged(Filled.oneCell(1, 4, 7, 6), 7, NO_CONFLICT);
        dueMerged(Filled.oneCell(2, 4, 6, 7), 7, NO_CONFLICT);
        dueMerged(Filled.oneCell(2, 4, 7, 6), 7, NO_CONFLICT);
        dueMerged(Filled.oneCell(2, 9, -7, -6), -6, NO_CONFLICT);
        // added by both: 0 is a number as any other, not that of a base
        dueMerged(Filled.oneAddedCell(0, 0, 7), 0, 1);
        dueMerged(Filled.oneAddedCell(0, 7, 0), 7, 1);
        dueMerged(Filled.oneAddedCell(1, 0, 7), 0, NO_CONFLICT);
        dueMerged(Filled.oneAddedCell(2, 0, -7), 0, NO_CONFLICT);
        dueMerged(Filled.oneAddedCell(2, 0, 7), 7, NO_CONFLICT);
    }

    private static void mergedSums() {
        dueMerged(Filled.oneCell(3, 4, 6, 7), 9, NO_CONFLICT);
        dueMerged(Filled.oneCell(3, 4, 7, 7), 10, NO_CONFLICT);
        dueMerged(Filled.oneCell(3, -9999, 9999, 9999), 29997, NO_CONFLICT);
        dueMerged(Filled.oneCell(3, 9999, -9999, -9999), -29997, NO_CONFLICT);
        dueMerged(Filled.oneAddedCell(3, 6, 7), 13, NO_CONFLICT);
        dueMerged(Filled.oneAddedCell(3, 7, 7), 14, NO_CONFLICT);
    }

    private static void dueMerged(TableSplice x, int cell, int conflicts) {
        Check.due("merge of one cell", x.merge(), conflicts);
        Check.dueList("merge of one cell", x, conflicts == 1 ? "1:0:0" : "");
        Check.due("merge of one cell: it", x.get(3, 0, 0), cell);
        Check.due("merge of one cell: by changes", x.cellByChanges(0, 0), cell);
    }

    private static void mergedCellThatNoSideHas() {
        for (int rule = 0; rule <= 3; rule++) {
            // ours removed the row that theirs changed, theirs dropped the column that ours changed
            TableSplice x = Filled.forked(2, 0, 1);
            x.setRule(0, rule);
            for (int table = 0; table <= 2; table++) {
                x.set(table, 0, 0, 8);
            }
            x.removeRow(1, 0);
            x.set(2, 0, 1, 5);
            x.dropColumn(2, 0);
            x.set(1, 1, 0, 6);
            Check.due("merge: row and column kept", x.merge(), 2);
            Check.dueList("merge: row and column kept", x, "3:-1:0 2:0:-1");
            Check.due("merge: no side has the cell", x.get(3, 0, 0), 0);
            Check.due("changes: no side has the cell", x.cellByChanges(0, 0), 0);
            Check.due("merge: row kept", x.get(3, 0, 1), 5);
            Check.due("merge: column kept", x.get(3, 1, 0), 6);
        }
        TableSplice y = new TableSplice();
        y.addRow(1, 3);
        y.addColumn(2, 3, 3);
        y.merge();
        Check.due("merge: a row of ours, a column of theirs", y.get(3, 3, 3), 0);
    }

    private static void mergeAnew() {
        TableSplice x = Filled.oneCell(0, 1, 2, 3);
        Check.due("merge", x.merge(), 1);
        x.settle(0, 2);
        Check.due("merge anew", x.merge(), 1);
        Check.due("merge anew: nothing is settled", x.open(), 1);
        Check.due("merge anew: cell", x.get(3, 0, 0), 2);
        x.set(1, 0, 0, 3);
        x.addColumn(1, 1, 50);
        Check.due("merge anew: conflicts stay listed before", x.conflicts(), 1);
        Check.due("merge anew: without conflict", x.merge(), 0);
        Check.due("merge anew: list", x.conflicts(), 0);
        Check.due("merge anew: columns", x.columns(3), 3);
        x.dropColumn(1, 1);
        x.removeRow(1, 0);
        x.removeRow(2, 0);
        x.merge();
        Check.due("merge anew: columns that went", x.columns(3), 1);
        Check.due("merge anew: rows that went", x.rows(3), 0);
        Check.due("merge leaves the base", x.get(0, 0, 0), 1);
        Check.due("merge of nothing", new TableSplice().merge(), 0);
    }

    private static void accept() {
        TableSplice x = Filled.forked(2, 0, 1);
        x.set(1, 0, 0, 5);
        x.set(2, 1, 0, 6);
        x.rename(2, 0, 60);
        x.addRow(1, 23);
        x.dropColumn(0, 1);
        x.merge();
        Check.due("accept", x.accept(), 6);
        for (int table = 0; table <= 2; table++) {
            Check.due("accept: columns", x.columns(table), 3);
            Check.due("accept: rows", x.rows(table), 3 | 1 << 23);
            Check.due("accept: cell of ours", x.get(table, 0, 0), 5);
            Check.due("accept: cell of theirs", x.get(table, 1, 0), 6);
            Check.due("accept: name of theirs", x.name(table, 0), 60);
            Check.due("accept: name of both", x.name(table, 1), 11);
        }
        Check.due("accept: merged", x.columns(3) + x.rows(3), 0);
        Check.due("accept: conflicts", x.conflicts(), 0);
        Check.throwsState("accept twice", x::accept);

        TableSplice y = Filled.oneOfEachKind();
        for (int place = 0; place < 6; place++) {
            Check.throwsState("accept with open conflicts", y::accept);
            y.settle(place, 2);
        }
        Check.due("accept when all are settled", y.accept(), 6);
        Check.due("accept takes what was settled: columns", y.columns(0), 0b1110);
        Check.due("accept takes what was settled: cell", y.get(0, 0, 2), 4);
        Check.due("accept takes what was settled: name", y.name(0, 1), 52);
        Check.due("accept empties the list", y.conflicts(), 0);
        Check.due("accept leaves none open", y.open(), 0);
    }

    private static void acceptRefuses() {
        TableSplice x = new TableSplice();
        Check.throwsState("accept at first", x::accept);
        x.merge();
        Check.due("accept of nothing", x.accept(), 0);
        x.merge();
        x.fork();
        Check.throwsState("accept after fork", x::accept);
        TableSplice y = Filled.oneCell(0, 1, 2, 3);
        y.merge();
        Check.throwsState("accept with an open conflict", y::accept);
        Check.due("accept refused: conflicts stay", y.conflicts(), 1);
        Check.due("accept refused: the base stays", y.get(0, 0, 0), 1);
        Check.due("accept refused: merged stays", y.get(3, 0, 0), 2);
        Check.due("accept refused: still fresh", y.settle(0, 1), 0);
        Check.due("accept refused, then taken", y.accept(), 1);
        for (int call = 0; call < 8; call++) {
            TableSplice z = Filled.forked(1, 0);
            z.merge();
            Filled.fillByCall(z, call);
            Check.throwsState("accept after filling call " + call, z::accept);
            z.merge();
            z.accept();
        }
    }

    private static void cellByChanges() {
        TableSplice x = Filled.oneCell(0, 1, 2, 3);
        Check.due("changes before a merge", x.cellByChanges(0, 0), 2);
        Check.due("changes: nothing is merged", x.rows(3), 0);
        x.merge();
        x.settle(0, 2);
        Check.due("changes after settling", x.cellByChanges(0, 0), 2);
        Check.due("changes: merged stays", x.get(3, 0, 0), 3);
        Check.due("changes: still fresh", x.accept(), 1);
        Check.due("changes after accepting", x.cellByChanges(0, 0), 3);
        x.removeRow(1, 0);
        Check.due("changes: removed", x.cellByChanges(0, 0), 0);
        x.set(2, 0, 0, 5);
        Check.due("changes: removed, but changed", x.cellByChanges(0, 0), 5);
        x.dropColumn(1, 0);
        Check.due("changes: dropped, but changed", x.cellByChanges(0, 0), 5);
        x.removeRow(2, 0);
        Check.due("changes: removed by both", x.cellByChanges(0, 0), 0);
        Check.due("changes: never there", x.cellByChanges(23, 7), 0);
        for (int side = 1; side <= 2; side++) {
            TableSplice y = Filled.oneCell(0, 5, 5, 5);
            y.dropColumn(side, 0);
            Check.due("changes: dropped by one", y.cellByChanges(0, 0), 0);
            TableSplice z = Filled.oneCell(0, 5, 5, 5);
            z.removeRow(side, 0);
            Check.due("changes: removed by one", z.cellByChanges(0, 0), 0);
        }
        Check.throwsOut("cellByChanges(24, 0)", () -> x.cellByChanges(24, 0));
        Check.throwsOut("cellByChanges(-1, 0)", () -> x.cellByChanges(-1, 0));
        Check.throwsOut("cellByChanges(0, 8)", () -> x.cellByChanges(0, 8));
        Check.throwsOut("cellByChanges(0, -1)", () -> x.cellByChanges(0, -1));
    }
}
