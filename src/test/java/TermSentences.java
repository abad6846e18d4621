/** What the document says of all calls, ahead of its promises, but for merging. */
final class TermSentences {
    /** Refused in each of the states of States.ALL: each call that throws, by each of its ways. */
    private static final String[] REFUSED = {
        "addColumn(3, 6, 5) ! out; addColumn(0, 8, 5) ! out; addColumn(1, 6, 100) ! argument",
        "dropColumn(3, 0) ! out; dropColumn(1, 6) ! out; dropColumn(2, -1) ! out",
        "rename(3, 0, 5) ! out; rename(1, 6, 5) ! out",
        "addRow(3, 6) ! out; addRow(0, 24) ! out",
        "removeRow(3, 0) ! out; removeRow(1, 6) ! out; removeRow(2, 24) ! out",
        "set(3, 0, 0, 5) ! out; set(0, 6, 0, 5) ! out; set(1, 0, 6, 5) ! out",
        "setRule(8, 1) ! out; setRule(0, 4) ! argument; setReference(8, true) ! out",
        "columns(4) ! out; rows(4) ! out; name(4, 0) ! out; name(3, 6) ! out",
        "get(4, 0, 0) ! out; get(3, 6, 0) ! out; get(3, 0, 6) ! out; changes(0) ! out",
        "cellByChanges(24, 0) ! out; cellByChanges(0, 8) ! out; kindOf(6) ! out; keyOf(6) ! out",
        "columnOf(6) ! out; settle(6, 1) ! out; settle(0, 3) ! out"};

    /** The eight that fill or set, in a table @; some of these calls change nothing. */
    private static final String[] EIGHT = {
        "addColumn(@, 7, 5)", "dropColumn(@, 2)", "rename(@, 2, 12)", "rename(@, 2, 60)",
        "addRow(@, 23)", "removeRow(@, 0)", "set(@, 0, 1, 0)", "set(@, 0, 1, 9999)",
        "setRule(0, 0)", "setRule(7, 3)", "setReference(0, false)", "setReference(3, true)",
        "setReference(7, true)"};

    private TermSentences() {
    }

    static void hold(Document document) {
        whatItIs(document.section("What it is"));
        document.section("The public face");
        Document.Section terms = document.section("Terms");
        refusedCalls(terms);
        tables(terms);
        changes(terms);
        freshness(terms);
        order(terms);
        constants(terms);
    }

    private static void whatItIs(Document.Section section) {
        section.says("A three-way merger of tables: a base and two sides that were made from it, in"
                + " which rows and columns came, went and changed; the merged table has what one"
                + " side changed, and a list tells where both sides are at odds.")
                .run(States.FORKED, "addColumn(1, 2, 12); removeRow(1, 0); rename(2, 0, 50)",
                        "set(2, 1, 1, 7); addRow(2, 5); merge() = 0; columns(3) = 7",
                        "rows(3) = 0x22; name(3, 0..2) = 50|11|12; get(3, 1, 0..2) = 0|7|0",
                        "set(1, 1, 1, 8); merge() = 1; list = 1:1:1");
        section.says("An object is used for at most 512 calls after it has been made; what later"
                + " calls answer is free.")
                .run("setRule(7, 1|2|3|0) = 0|1|2|3;".repeat(Run.MOST_CALLS / 4))
                // 265 calls make the longest list; what is dearest then still answers at the end
                .run(States.FULL_LIST, "merge() = 399;".repeat(246), "kindOf(398) = 6")
                .run(States.FULL_LIST, "settle(0..246, 2) = " + countDown(398, 247))
                // 4 calls make a base of one cell, and each round is 4 more
                .run("addColumn(1, 0, 5); addRow(1, 0); merge() = 0; accept() = 1;",
                        "set(1, 0, 0, 7); set(2, 0, 0, 7); merge() = 0; accept() = 1;".repeat(127));
    }

    private static String countDown(int first, int count) {
        StringBuilder text = new StringBuilder();
        for (int i = 0; i < count; i++) {
            text.append(i == 0 ? "" : "|").append(first - i);
        }
        return text.toString();
    }

    private static void refusedCalls(Document.Section terms) {
        terms.says("The calls fill the tables, cell by cell, fork and merge them, and list and"
                + " settle conflicts.")
                .run(States.FORKED, "set(1, 0, 0, 1); set(2, 0, 0, 2); merge() = 1; list = 1:0:0",
                        "settle(0, 2) = 0; get(3, 0, 0) = 2; accept() = 4; get(0, 0, 0) = 2");
        Document.Sentence sentence = terms.says("A call that throws an exception changes nothing;"
                + " if several exceptions apply, the one that its throws clause names first is"
                + " thrown.")
                .runInEach(States.ALL, REFUSED)
                .runInEach(States.FILLED, "addColumn(0..1, 0, 5) ! state; addRow(0..1, 0) ! state",
                        "rename(1, 0, 100) ! argument; set(1, 0, 0, 10000) ! argument")
                .runInEach(States.NOT_TO_ACCEPT, "accept() ! state");
        firstOfSeveral(sentence);
    }

    private static void firstOfSeveral(Document.Sentence sentence) {
        sentence.runInEach(States.ALL, "addColumn(-1|3|4, 0|8, -1|100) ! out",
                "addColumn(0, -1|8, -1|100) ! out; rename(-1|3|4, 0, -1|100) ! out",
                "rename(0..2, -1|6|8, -1|100) ! out; set(-1|3|4, 0, 0, -10000|10000) ! out",
                "set(0..2, -1|6|24, 0|6, 10000) ! out; set(0..2, 0, -1|6|8, -10000) ! out",
                "setRule(-1|8, -1|4) ! out")
                // the merged table has the column and the row, but is no table to add to
                .runInEach(States.LISTED, "addColumn(3, 1, 5|100) ! out; addRow(3, 0) ! out")
                .runInEach(States.FILLED, "addColumn(0..1, 0, -1|100) ! argument")
                .runInEach(States.LISTED, "settle(-1|6, 1|3) ! out; settle(0..5, 0|3) ! out")
                .runInEach(States.UNLISTED, "settle(0, 0..3) ! out")
                .run(States.SETTLED_NOT_FRESH, "settle(0..5, 1..2) ! state; accept() ! state")
                .run(States.NOT_FRESH, "settle(3, 1..2) ! state; accept() ! state");
    }

    private static void tables(Document.Section terms) {
        terms.says("There are four tables: 0 the base, 1 ours, 2 theirs (the two sides), and 3, the"
                + " merged one, which is filled by merge() alone.")
                .run("columns(-1|4) ! out; rows(-1|4) ! out; columns(0..3) == 0; rows(0..3) == 0")
                .runInEach(States.LISTED, "addColumn(3, 6, 5) ! out; dropColumn(3, 1) ! out",
                        "rename(3, 1, 5) ! out; addRow(3, 6) ! out; removeRow(3, 0) ! out",
                        "set(3, 0, 1, 5) ! out")
                .run("addColumn(0..2, 0|7, 1+#); addRow(0..2, 0|23); set(0..2, 23, 7, 9)",
                        "columns(3) = 0; rows(3) = 0; merge() = 2; columns(3) = 0x81",
                        "rows(3) = 0x800001; get(3, 23, 7) = 9; list = 4:-1:0 4:-1:7")
                // what the sides and the base get later does not reach it
                .run(States.AGREED, "addColumn(0..2, 7, 5); addRow(0..2, 23); rename(0..2, 0, 50)",
                        "set(0..2, 1, 1, 50); dropColumn(0..2, 0); removeRow(0..2, 0)",
                        "columns(3) = 3; rows(3) = 3; name(3, 0..1) = 10|11; get(3, 1, 1) = 7");
        terms.says("Columns have numbers from 0 to 7, rows have keys from 0 to 23; they are the"
                + " same thing in all tables.")
                .run("addColumn(0..2, -1|8, 5) ! out; addRow(0..2, -1|24) ! out",
                        "addColumn(0..2, 0|7, 5); addRow(0..2, 0|23)")
                // neither the name nor the order in which they came matters
                .run("addColumn(1, 7|0, 5+#); addColumn(2, 0, 6); addColumn(2, 7, 5)",
                        "addRow(1, 23|0); addRow(2, 0|23); set(1..2, 23, 7, 1); merge() = 0",
                        "name(3, 0|7) = 6|5; get(3, 0|23, 0|7) = 0|0|0|1")
                .run("addColumn(1, 0, 5); addColumn(2, 7, 5); addRow(1, 0); addRow(2, 23)",
                        "merge() = 1; columns(3) = 0x81; rows(3) = 0x800001; list = 5:-1:7");
        terms.says("A table has some of the columns, each with a name from 0 to 99, and some of the"
                + " rows; it has a cell, which is a whole number, for each row and each column that"
                + " it has.")
                .run("addColumn(0, 0, 0); addColumn(0, 7, 99); addColumn(0, 1, -1|100) ! argument")
                .run("addColumn(0, 0..7, 5); fork() = 0; get(0..2, 0|23, 0|7) ! out")
                .run("addRow(0, 0..23); fork() = 0; get(0..2, 0|23, 0|7) ! out")
                .run(States.FULL_BASE, "fork() = 192; get(0..1, 0..11, 0..7) = 0",
                        "set(1, 23, 7, -9999); get(0..2, 23, 7) = 0|-9999|0")
                .run(States.FULL_BASE, "fork() = 192; merge() = 0; get(2..3, 12..23, 0..7) = 0")
                .run("addColumn(0, 3, 5); addRow(0, 9); get(0, 9, 3) = 0; get(0, 9, 2|4) ! out",
                        "get(0, 8|10, 3) ! out");
        terms.says("All tables are empty at first.")
                .run("columns(0..3) == 0; rows(0..3) == 0; fork() = 0; changes(1..2) = 0")
                .run("merge() = 0; columns(3) = 0; rows(3) = 0; accept() = 0; columns(0) = 0");
        terms.says("Each column has a rule, 0 at first, and is a reference or not, in all tables.")
                .run("setRule(0..7, 0) = 0; setReference(0..7, false) = false")
                // they are the column's own, whichever table has it, and stay when none has
                .run(States.FORKED, "setRule(1, 2); setReference(1, true); dropColumn(0..2, 1)",
                        "merge() = 0; accept() = 2; addColumn(1..2, 1, 5); set(1, 0..1, 1, 1)",
                        "set(2, 0..1, 1, 2); merge() = 2; list = 6:0:1 6:1:1; get(3, 0..1, 1) = 2",
                        "fork(); setRule(1, 0) = 2; setReference(1, true) = false");
    }

    private static void changes(Document.Section terms) {
        terms.says("A side changed a cell if the base has the cell, too, and the number is another"
                + " one there.")
                .run(States.FORKED, "set(1, 1, 1, 0); changes(1) = 0; set(1, 1, 1, 1)",
                        "changes(1) = 1",
                        "set(1, 1, 1, -1); changes(1) = 1; set(0, 1, 1, -1); changes(1..2) = 0|1")
                .run(States.FORKED, "addRow(1, 23); set(1, 23, 0..1, 9); changes(1) = 1",
                        "addColumn(2, 7, 5); set(2, 0..1, 7, 9); changes(2) = 1")
                .run(States.FORKED, "set(0, 1, 1, 5); removeRow(1, 1); dropColumn(2, 1)",
                        "changes(1..2) = 1");
        terms.says("A side changed a column if it changed some cell of it, or if it has another"
                + " name for it than the base.")
                .run(States.FORKED, "dropColumn(2, 1); merge() = 0; set(1, 0, 1, 1); merge() = 1",
                        "set(1, 0, 1, 0); merge() = 0; set(1, 1, 1, 1); merge() = 1",
                        "set(1, 1, 1, 0); rename(1, 1, 12); merge() = 1; rename(1, 1, 11)",
                        "merge() = 0")
                .run(States.FULL_BASE, "fork(); dropColumn(1, 7); set(2, 23, 7, 1); merge() = 1",
                        "list = 3:-1:7; set(2, 23, 7, 0); set(2, 0, 7, 1); merge() = 1",
                        "set(2, 0, 7, 0); set(2, 0, 6, 1); merge() = 0; columns(3) = 0x7f")
                // a cell of a row that the base does not have is not changed
                .run(States.FORKED, "dropColumn(2, 1); addRow(1, 23); set(1, 23, 1, 9)",
                        "merge() = 0",
                        "columns(3) = 1; addRow(0, 23); merge() = 2; list = 3:-1:1 2:23:-1");
        terms.says("A side changed a row if it changed some cell of it.")
                .run(States.FORKED, "removeRow(2, 1); merge() = 0; set(1, 1, 0, 1); merge() = 1",
                        "set(1, 1, 0, 0); merge() = 0; set(1, 1, 1, 1); merge() = 1",
                        "set(1, 1, 1, 0)",
                        "rename(1, 0..1, 50+#); merge() = 0; rows(3) = 1")
                .run(States.FULL_BASE, "fork(); removeRow(1, 23); set(2, 23, 7, 1); merge() = 1",
                        "list = 2:23:-1; set(2, 23, 7, 0); set(2, 23, 0, 1); merge() = 1",
                        "set(2, 23, 0, 0); set(2, 22, 0, 1); merge() = 0; rows(3) = 0x7fffff")
                // a cell of a column that the base does not have is not changed
                .run(States.FORKED, "removeRow(2, 1); addColumn(1, 7, 5); set(1, 1, 7, 9)",
                        "merge() = 0; rows(3) = 1; addColumn(0, 7, 5); merge() = 2",
                        "list = 3:-1:7 2:1:-1");
    }

    private static void freshness(Document.Section terms) {
        Document.Sentence fresh = terms.says("The list is fresh from merge() on, until the next"
                + " successful call of one of the eight that fill tables or set rules and"
                + " references, or of fork() or accept(); it is not fresh at first.")
                .run("accept() ! state; merge() = 0; accept() = 0; accept() ! state")
                .run("merge() = 0; fork() = 0; accept() ! state; merge() = 0; merge() = 0",
                        "accept() = 0; fork() = 0; accept() ! state")
                .run(States.SETTLED, "fork() = 8; accept() ! state")
                .run(States.SETTLED, "accept() = 4; accept() ! state; merge() = 2",
                        "settle(0..1, 1) = 1|0; accept() = 4")
                .run(States.SETTLED_NOT_FRESH, "merge() = 6; settle(0..5, 2); accept() = 6")
                // settling and reading leave it fresh, and so do refused calls
                .run(States.AT_ODDS, "settle(0, 1); settle(1, 1); settle(2..5, 1); accept() = 4");
        for (String state : new String[] {States.AGREED, States.AT_ODDS, States.SETTLED}) {
            fresh.run(state, "columns(0) == " + (state.equals(States.AGREED) ? 3 : 15),
                    "rows(0) == 3; name(0, 1) == 11; get(0, 0, 0) == 0; cellByChanges(23, 7) == 0",
                    "changes(1) == " + (state.equals(States.AGREED) ? 1 : 5));
        }
        fresh.run(States.AT_ODDS, "conflicts() == 6; open() == 6; kindOf(0) == 3; keyOf(2) == 1",
                "columnOf(5) == 3").runInEach(new String[] {States.SETTLED}, REFUSED);
        for (String eight : EIGHT) {
            for (int table = 0; table <= (eight.contains("@") ? 2 : 0); table++) {
                String call = eight.replace("@", "" + table);
                fresh.run(States.AT_ODDS, "settle(0..4, 2)", call, "settle(5, 1..2) ! state",
                        "accept() ! state; open() = 1");
                fresh.run(States.SETTLED, call, "accept() ! state; open() = 0; conflicts() = 6");
            }
        }
        terms.says("Conflicts stay listed, also when the list is not fresh, until the next call of"
                + " merge(), fork() or accept().")
                .run(States.AT_ODDS, "setRule(0, 0); addColumn(0..2, 7, 5); addRow(0..2, 23);"
                        + States.LIST_AT_ODDS, "rename(0..2, 1, 5); set(0..2, 0, 2, 5);"
                        + States.LIST_AT_ODDS, "dropColumn(0..2, 1|2|3); removeRow(0..2, 0)",
                        "setReference(3, false);" + States.LIST_AT_ODDS, "conflicts() = 6",
                        "open() = 6",
                        "accept() ! state;" + States.LIST_AT_ODDS, "fork(); list = ; open() = 0")
                .run(States.NOT_FRESH, States.LIST_AT_ODDS, "open() = 5; merge() = 6; open() = 6",
                        "set(2, 0, 2, 3); conflicts() = 6; merge() = 5",
                        "list = 3:-1:0 4:-1:1 2:1:-1 5:-1:3 6:0:3")
                .run(States.SETTLED, States.LIST_AT_ODDS, "accept() = 4; list = ; conflicts() = 0");
    }

    private static void order(Document.Section terms) {
        String alike = "addColumn(0, 0..7, 10+#); addRow(0, 0..3); setReference(7, true);"
                + "fork() = 32;";
        terms.says("The conflicts are listed in this order: for each column, by rising numbers, the"
                + " kind 3, then the kind 4; for each row, by rising keys, the kind 2; for each row"
                + " and in it for each column, by rising keys and numbers, the kind 1; for each"
                + " column the kind 5; for each row and in it for each column the kind 6.")
                .run(States.AT_ODDS, States.LIST_AT_ODDS)
                // a column's kind 4 stands ahead of the kind 3 of a higher number, and so on
                .run(alike, "rename(1, 6, 60); rename(2, 6, 61); rename(1, 2, 62)",
                        "rename(2, 2, 63)",
                        "dropColumn(1, 5); rename(2, 5, 64); dropColumn(2, 1); rename(1, 1, 65)",
                        "merge() = 4; list = 3:-1:1 4:-1:2 3:-1:5 4:-1:6")
                // a low row or column of a later kind stands behind a high one of an earlier kind
                .run(alike, "rename(1, 7, 60); rename(2, 7, 61); set(1, 3, 6, 1); removeRow(2, 3)",
                        "set(1, 1, 0..1, 1); set(2, 1, 0..1, 2); set(1, 0, 5, 1); set(2, 0, 5, 2)",
                        "rename(1, 1, 10); rename(2, 3, 12); set(1, 2, 7, 9); set(1, 0, 7, 9)",
                        "merge() = 9",
                        "list = 4:-1:7 2:3:-1 1:0:5 1:1:0 1:1:1 5:-1:1 5:-1:3 6:0:7 6:2:7")
                .run(alike, "set(1, 0..3, 0, 1); removeRow(2, 3|0|2|1); merge() = 4",
                        "list = 2:0:-1 2:1:-1 2:2:-1 2:3:-1")
                .run(States.FULL_LIST, "kindOf(0|7|8|199|200|206|207|398) = 4|4|1|1|5|5|6|6",
                        "columnOf(0..8) = 0|1|2|3|4|5|6|7|0; keyOf(8|15|16|191|192|199)"
                        + " = 0|0|1|22|23|23; columnOf(200..206) = 1+#; columnOf(8..15) = 0+#",
                        "keyOf(207|214|215|398) = 0|0|1|23; columnOf(207..214) = 0+#");
    }

    private static void constants(Document.Section terms) {
        terms.says("The constants: `NONE = -1`: There is none.")
                .runInEach(States.LISTED, "keyOf(0|1|4) == -1; columnOf(2) == -1");
        Check.due("NONE", TableSplice.NONE, -1);
        terms.says("`BASE = 0, OURS = 1, THEIRS = 2, MERGED = 3`: The tables.");
        Check.due("BASE", TableSplice.BASE, 0);
        Check.due("OURS", TableSplice.OURS, 1);
        Check.due("THEIRS", TableSplice.THEIRS, 2);
        Check.due("MERGED", TableSplice.MERGED, 3);
        // the interface's headlines ask nothing of an answer
        String ahead = "Ahead of the calls ";
        terms.says(ahead + "`addColumn`, `dropColumn`, `rename`, `addRow`, `removeRow`, `set`,"
                + " `setRule`, `setReference` the interface says: ---- filling the base and the"
                + " sides: eight calls that fill or set.");
        terms.says(ahead + "`columns`, `rows`, `name`, `get`, `changes` the interface says: ----"
                + " what a table has.");
        terms.says(ahead + "`fork`, `merge`, `accept`, `cellByChanges` the interface says: ----"
                + " forking and merging.");
        terms.says(ahead + "`conflicts`, `open`, `kindOf`, `keyOf`, `columnOf`, `settle` the"
                + " interface says: ---- conflicts.");
    }
}
