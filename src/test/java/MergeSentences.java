/** What the terms say of merging: which columns, rows, names, cells and conflicts come of it. */
final class MergeSentences {
    private static final int SUM = 3;

    private MergeSentences() {
    }

    static void hold(Document document) {
        Document.Section terms = document.section("Terms");
        terms.says("Merging.").run("merge() = 0; columns(3) = 0; rows(3) = 0");
        columns(terms);
        rows(terms);
        names(terms);
        cellsOfOneSideOrNone(terms);
        cellsOfBothSides(terms);
        namesTwice(terms);
        references(terms);
    }

    private static void columns(Document.Section terms) {
        Document.Sentence sentence = terms.says("The merged table has a column if both sides have"
                + " it; or if the base does not have it, and one side has it; or if the base and"
                + " one side have it, and that side changed it, which is a conflict of the kind 3,"
                + " since the other side dropped it.")
                .run("addColumn(0, 0|7, 9); merge() = 0; columns(3) = 0")
                .run("addColumn(1, 0|7, 1+#); merge() = 0; columns(3) = 0x81")
                .run("addColumn(2, 0|7, 1+#); merge() = 0; columns(3) = 0x81")
                .run("addColumn(0..1, 7, 9); merge() = 0; columns(3) = 0")
                .run("addColumn(0|2, 7, 9); merge() = 0; columns(3) = 0")
                .run("addColumn(1..2, 7, 9); merge() = 0; columns(3) = 0x80")
                .run("addColumn(0..2, 7, 9); merge() = 0; columns(3) = 0x80")
                // both dropped what one of them had changed before
                .run(States.FORKED, "rename(1, 1, 5); dropColumn(1..2, 1); merge() = 0",
                        "columns(3) = 1")
                // both have it and both changed it: no conflict of the kind 3
                .run(States.FORKED, "set(1, 1, 1, 5); set(2, 0, 1, 5); merge() = 0; columns(3) = 3")
                .run(States.FULL_BASE, "fork(); dropColumn(2, 0..7); merge() = 0; columns(3) = 0",
                        "rows(3) = 0xffffff; rename(1, 0..7, 50+#); merge() = 8; columns(3) = 255",
                        "kindOf(0..7) = 3; columnOf(0..7) = 0+#; name(3, 0..7) = 50+#");
        for (int side = 1; side <= 2; side++) {
            String dropped = States.FORKED + "dropColumn(" + (3 - side) + ", 1);";
            sentence.run(dropped, "merge() = 0; columns(3) = 1")
                    .run(dropped, "rename(" + side + ", 1, 12); merge() = 1; list = 3:-1:1",
                            "columns(3) = 3; name(3, 1) = 12; get(3, 0..1, 1) = 0")
                    .run(dropped, "set(" + side + ", 0, 1, 1); merge() = 1; list = 3:-1:1",
                            "columns(3) = 3; name(3, 1) = 11; get(3, 0..1, 1) = 1|0")
                    .run(dropped, "set(" + side + ", 0, 0, 1); rename(" + side + ", 0, 5)",
                            "merge() = 0; columns(3) = 1");
        }
    }

    private static void rows(Document.Section terms) {
        Document.Sentence sentence = terms.says("It has a row if both sides have it; or if the base"
                + " does not have it, and one side has it; or if the base and one side have it, and"
                + " that side changed it, which is a conflict of the kind 2.")
                .run("addRow(0, 0|23); merge() = 0; rows(3) = 0")
                .run("addRow(1, 0|23); merge() = 0; rows(3) = 0x800001")
                .run("addRow(2, 0|23); merge() = 0; rows(3) = 0x800001")
                .run("addRow(0..1, 23); merge() = 0; rows(3) = 0")
                .run("addRow(0|2, 23); merge() = 0; rows(3) = 0")
                .run("addRow(1..2, 23); merge() = 0; rows(3) = 0x800000")
                .run("addRow(0..2, 23); merge() = 0; rows(3) = 0x800000")
                .run(States.FORKED, "set(1, 1, 1, 5); removeRow(1..2, 1); merge() = 0; rows(3) = 1")
                .run(States.FORKED, "set(1, 1, 1, 5); set(2, 1, 0, 5); merge() = 0; rows(3) = 3")
                .run(States.FULL_BASE, "fork(); removeRow(2, 0..23); merge() = 0; rows(3) = 0",
                        "columns(3) = 255; set(1, 0..23, 7, 1); merge() = 24; rows(3) = 0xffffff",
                        "kindOf(0..23) = 2; keyOf(0..23) = 0+#; get(3, 0..23, 7) = 1");
        for (int side = 1; side <= 2; side++) {
            String removed = States.FORKED + "removeRow(" + (3 - side) + ", 1);";
            sentence.run(removed, "merge() = 0; rows(3) = 1")
                    .run(removed, "set(" + side + ", 1, 0, -1); merge() = 1; list = 2:1:-1",
                            "rows(3) = 3; get(3, 1, 0..1) = -1|0")
                    .run(removed, "set(" + side + ", 0, 0, 1); rename(" + side + ", 0, 5)",
                            "merge() = 0; rows(3) = 1");
        }
    }

    private static void names(Document.Section terms) {
        terms.says("The name of a merged column is that of the side that has it, if only one does.")
                .run("addColumn(1, 7, 0); merge(); name(3, 7) = 0")
                .run("addColumn(2, 7, 99); merge(); name(3, 7) = 99")
                .run(States.FORKED, "dropColumn(2, 1); rename(1, 1, 0); merge(); name(3, 1) = 0")
                .run(States.FORKED, "dropColumn(1, 1); rename(2, 1, 99); merge(); name(3, 1) = 99")
                .run(States.FORKED, "dropColumn(1, 1); set(2, 1, 1, 5); merge(); name(3, 1) = 11");
        Document.Sentence both = terms.says("If both have it, it is the name that both tell, or"
                + " else that of the side whose name is not that of the base, if the base has the"
                + " column and just one side has another name than the base; otherwise there is a"
                + " conflict of the kind 4, and the name is ours.");
        // the names of the base, ours and theirs, the merged one, and how many conflicts
        int[][] named = {
            {5, 5, 5, 5, 0}, {5, 6, 6, 6, 0}, {0, 0, 0, 0, 0}, {99, 0, 0, 0, 0}, {0, 99, 99, 99, 0},
            {5, 6, 5, 6, 0}, {5, 5, 6, 6, 0}, {0, 99, 0, 99, 0}, {0, 0, 99, 99, 0},
            {99, 0, 99, 0, 0}, {99, 99, 0, 0, 0},
            {5, 6, 7, 6, 1}, {5, 7, 6, 7, 1}, {0, 1, 99, 1, 1}, {99, 98, 0, 98, 1},
            {50, 0, 99, 0, 1},
        };
        for (int[] is : named) {
            both.run("addColumn(0, 7, " + is[0] + "); addColumn(1, 7, " + is[1] + ")",
                    "addColumn(2, 7, " + is[2] + "); merge() = " + is[4] + "",
                    "name(3, 7) = " + is[3],
                    "list = " + (is[4] == 1 ? "4:-1:7" : ""));
        }
        // without the column in the base, 0 is a name as any other
        int[][] added = {{5, 5, 0}, {0, 0, 0}, {99, 99, 0}, {0, 1, 1}, {1, 0, 1}, {99, 0, 1}};
        for (int[] is : added) {
            both.run("addColumn(1, 7, " + is[0] + "); addColumn(2, 7, " + is[1] + ")",
                    "merge() = " + is[2] + "; name(3, 7) = " + is[0],
                    "list = " + (is[2] == 1 ? "4:-1:7" : ""));
        }
    }

    private static void cellsOfOneSideOrNone(Document.Section terms) {
        Document.Sentence sentence = terms.says("A cell of the merged table is 0 if no side has it,"
                + " and that of the side that has it, if only one does.");
        for (int rule = 0; rule <= SUM; rule++) {
            String set = "setRule(0..7, " + rule + ");";
            sentence.run(set, "addRow(1, 23); addColumn(2, 7, 5); merge() = 0; get(3, 23, 7) = 0");
            // the base alone has the cell, in a row and a column that were kept
            sentence.run(States.FORKED, set, "set(0..2, 0, 0, 6); set(2, 0, 1, 5); removeRow(1, 0)",
                    "dropColumn(2, 0); set(1, 1, 0, 7); merge() = 2; list = 3:-1:0 2:0:-1",
                    "get(3, 0, 0) = 0; get(3, 0, 1) = 5; get(3, 1, 0) = 7");
            for (int side = 1; side <= 2; side++) {
                sentence.run(States.FORKED, set, "addRow(" + side + ", 23); addColumn(" + side
                        + ", 7, 5)", "set(" + side + ", 23, 0, -9999)", "set(" + side
                        + ", 23, 7, 9999)", "merge() = 0; get(3, 23, 0|7) = -9999|9999",
                        "get(3, 0, 7) = 0; get(3, 23, 1) = 0");
                // the base has the cells, too, but the other side does not; one stayed, one changed
                String changed = "set(0..2, 0..1, 0..1, 6); set(" + side + ", 1, 1, 9);";
                sentence.run(States.FORKED, set, changed, "removeRow(" + (3 - side) + ", 1)",
                        "cellByChanges(1, 0..1) = 6|9; merge() = 1; get(3, 1, 0..1) = 6|9");
                sentence.run(States.FORKED, set, changed, "dropColumn(" + (3 - side) + ", 1)",
                        "cellByChanges(0..1, 1) = 6|9; merge() = 1; get(3, 0..1, 1) = 6|9");
            }
        }
    }

    private static void cellsOfBothSides(Document.Section terms) {
        Document.Sentence cells = terms.says("If both have it, let o be ours, t be theirs, and b be"
                + " that of the base.");
        changed(cells, 0, 4, 5, 4, 5, 0);
        changed(cells, 0, 4, 4, 5, 5, 0);
        added(cells, 0, 4, 4, 4, 0);

        Document.Sentence sums = terms.says("If the rule of the column is 3 (sums), it is o + t -"
                + " b, or o + t if the base does not have the cell.");
        changed(sums, SUM, 4, 6, 7, 9, 0);
        changed(sums, SUM, 4, 7, 7, 10, 0);
        changed(sums, SUM, 4, 4, 4, 4, 0);
        changed(sums, SUM, -9999, 9999, 9999, 29997, 0);
        changed(sums, SUM, 9999, -9999, -9999, -29997, 0);
        added(sums, SUM, 6, 7, 13, 0);
        added(sums, SUM, 7, 7, 14, 0);
        added(sums, SUM, 9999, 9999, 19998, 0);
        added(sums, SUM, -9999, -9999, -19998, 0);
        // beyond the numbers of an int it is the int that is left of it
        sums.run(States.sumBeyondAnInt(), "merge() = 0; get(3, 0, 0) = -1673799439; accept() = 1",
                "get(0..2, 0, 0) = -1673799439");

        Document.Sentence alike = terms.says("Otherwise, if o and t are the same, it is that;"
                + " otherwise, if the base has the cell, and one of o and t is b, it is the other"
                + " one of both.");
        Document.Sentence unlike = terms.says("Otherwise both changed it, or added it, unlike: with"
                + " the rule 0 there is a conflict of the kind 1, and it is o; with the rule 1"
                + " it is o; with the rule 2 it is the greater one.");
        for (int rule = 0; rule < SUM; rule++) {
            changed(alike, rule, 4, 4, 4, 4, 0);
            changed(alike, rule, 4, 9, 9, 9, 0);
            changed(alike, rule, 9999, -9999, -9999, -9999, 0);
            changed(alike, rule, 4, 3, 4, 3, 0);
            changed(alike, rule, 4, 4, 3, 3, 0);
            changed(alike, rule, 4, 5, 4, 5, 0);
            changed(alike, rule, 4, 4, 5, 5, 0);
            changed(alike, rule, 0, 0, -9999, -9999, 0);
            changed(alike, rule, 0, -9999, 0, -9999, 0);
            added(alike, rule, 0, 0, 0, 0);
            added(alike, rule, 9999, 9999, 9999, 0);
            int conflicts = rule == 0 ? 1 : 0;
            boolean greater = rule == 2;
            changed(unlike, rule, 4, 5, 6, greater ? 6 : 5, conflicts);
            changed(unlike, rule, 4, 6, 5, 6, conflicts);
            changed(unlike, rule, 9999, -9999, -9998, greater ? -9998 : -9999, conflicts);
            changed(unlike, rule, 0, -9999, 9999, greater ? 9999 : -9999, conflicts);
            // in an added cell 0 is a number as any other
            added(unlike, rule, 0, 1, greater ? 1 : 0, conflicts);
            added(unlike, rule, 1, 0, 1, conflicts);
            added(unlike, rule, 0, -1, 0, conflicts);
            added(unlike, rule, -1, 0, greater ? 0 : -1, conflicts);
        }
        unlike.run(States.FULL_LIST, "kindOf(8|199) = 1; setRule(0..7, 1) = 0; merge() = 207",
                "setRule(0..7, 3); merge() = 207; kindOf(7|8|14|15) = 4|5|5|6");
    }

    /** The cell of all three tables. */
    private static void changed(Document.Sentence sentence, int rule, int b, int o, int t, int is,
            int conflicts) {
        sentence.run("setRule(7, " + rule + "); addColumn(0..2, 7, 5); addRow(0..2, 23)",
                "set(0, 23, 7, " + b + "); " + sides(o, t, is, conflicts));
    }

    /** A cell that the base does not have: not its row, not its column, or neither. */
    private static void added(Document.Sentence sentence, int rule, int o, int t, int is,
            int conflicts) {
        for (String had : new String[] {"", "addRow(0, 23);", "addColumn(0, 7, 5);"}) {
            sentence.run("setRule(7, " + rule + "); addColumn(1..2, 7, 5); addRow(1..2, 23)", had,
                    sides(o, t, is, conflicts));
        }
    }

    private static String sides(int o, int t, int is, int conflicts) {
        return "set(1, 23, 7, " + o + "); set(2, 23, 7, " + t + "); cellByChanges(23, 7) = " + is
                + "; merge() = " + conflicts + "; get(3, 23, 7) = " + is + "; list = "
                + (conflicts == 1 ? "1:23:7" : "");
    }

    private static void namesTwice(Document.Section terms) {
        terms.says("A merged column with the same name as a merged column with a lower number is a"
                + " conflict of the kind 5.")
                .run("addColumn(1, 0, 0); merge() = 0; addColumn(1, 7, 0); merge() = 1",
                        "list = 5:-1:7")
                .run("addColumn(1, 0..7, 99); merge() = 7",
                        "list = 5:-1:1 5:-1:2 5:-1:3 5:-1:4 5:-1:5"
                        + " 5:-1:6 5:-1:7")
                .run("addColumn(1, 0..7, 92+#); merge() = 0; rename(1, 6, 99); merge() = 1",
                        "list = 5:-1:7; rename(1, 6, 98); rename(1, 7, 97); merge() = 1",
                        "list = 5:-1:7; rename(1, 5, 98); merge() = 1; list = 5:-1:6")
                // one for each column, also if several lower ones have its name
                .run("addColumn(1, 0|3|5, 5); addColumn(2, 1|4|7, 6); merge() = 4",
                        "list = 5:-1:3 5:-1:4 5:-1:5 5:-1:7")
                // a name that was merged away, or is that of a column that is not merged, is none
                .run(States.FORKED, "rename(1, 0, 11); rename(2, 1, 10); merge() = 0",
                        "name(3, 0..1) = 11|10; rename(2, 1, 11); merge() = 1; list = 5:-1:1")
                .run(States.FORKED, "rename(1, 1, 10); dropColumn(2, 0); merge() = 0",
                        "columns(3) = 2");
    }

    private static void references(Document.Section terms) {
        Document.Sentence sentence = terms.says("A cell of a merged column that is a reference is a"
                + " conflict of the kind 6 if it is neither -1 nor the key of a merged row.");
        // the rows 0 and 23 are merged, and every other number from -9999 to 9999 is no key of one
        int[] cells = {-1, 0, 23, -2, 1, 22, 24, 31, 32, 55, 64, 9999, -9999};
        for (int place = 0; place < cells.length; place++) {
            boolean missing = place > 2;
            sentence.run("addColumn(1, 7, 5); addRow(1, 0|23); setReference(7, true)",
                    "set(1, 23, 7, " + cells[place] + "); merge() = " + (missing ? 1 : 0),
                    "list = " + (missing ? "6:23:7" : ""), "setReference(7, false); merge() = 0");
        }
        sentence
                .run("addColumn(1, 7, 5); addRow(1, 1..23); setReference(7, true); merge() = 23",
                        "kindOf(0..22) = 6; keyOf(0..22) = 1+#; addRow(2, 0); merge() = 0")
                // without rows there is no cell, and without a merged column no conflict
                .run("addColumn(1, 0..7, 10+#); setReference(0..7, true); merge() = 0")
                .run(States.FORKED, "setReference(0..7, true); set(0..2, 0..1, 1, 5); merge() = 2",
                        "list = 6:0:1 6:1:1; dropColumn(1, 1); merge() = 0; columns(3) = 1")
                // the cells of a row that is not merged are none, but it is missing as a key
                .run(States.FORKED, "setReference(1, true); set(0..2, 0..1, 1, 1); merge() = 0",
                        "removeRow(1, 1); merge() = 1; list = 6:0:1; set(2, 1, 0, 3); merge() = 1",
                        "list = 2:1:-1")
                // it is the merged cell that tells, a sum or a cell that no side has, too
                .run(States.FORKED, "setReference(0, true); setRule(0, 3); set(1..2, 0, 0, 1)",
                        "merge() = 1; list = 6:0:0; addRow(1, 2); merge() = 0; get(3, 0, 0) = 2")
                .run("setReference(7, true); addRow(1, 23); addColumn(2, 7, 5); merge() = 1",
                        "list = 6:23:7; get(3, 23, 7) = 0; addRow(2, 0); merge() = 0");
    }
}
