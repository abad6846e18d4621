/** Promises 19 to 24: the list of conflicts, and settling them. */
final class ConflictSentences {
    private static final String NO_PLACE = "-1|6|7|399|424|MIN|MAX";
    private static final String NO_PLACE_AT_ALL = "-1|0|1|399|424|MIN|MAX";
    private static final String NO_SIDE = ReadSentences.NO_SIDE;

    private ConflictSentences() {
    }

    static void hold(Document document) {
        conflicts(document.section("Promise 19: conflicts"));
        open(document.section("Promise 20: open"));
        kindOf(document.section("Promise 21: kindOf"));
        keyOf(document.section("Promise 22: keyOf"));
        columnOf(document.section("Promise 23: columnOf"));
        settle(document.section("Promise 24: settle"));
    }

    private static void conflicts(Document.Section promise) {
        promise.says("Returns how many conflicts are listed, settled ones too.")
                .runInEach(States.UNLISTED, "conflicts() == 0")
                .runInEach(States.LISTED, "conflicts() == 6")
                .run(States.AT_ODDS, "settle(0, 1); conflicts() = 6; settle(1..5, 1)",
                        "conflicts() = 6")
                .run(States.FULL_LIST, "conflicts() == 399; settle(398, 1) = 398",
                        "conflicts() = 399",
                        "fork() = 0; conflicts() == 0");
    }

    private static void open(Document.Section promise) {
        promise.says("Returns how many of the conflicts are not settled.")
                .runInEach(States.UNLISTED, "open() == 0")
                .run(States.AT_ODDS, "open() == 6; settle(5, 1); open() == 5; settle(0, 2)",
                        "open() == 4; settle(1..4, 2); open() == 0")
                .run(States.NOT_FRESH, "open() == 5").run(States.SETTLED_NOT_FRESH, "open() == 0")
                .run(States.FULL_LIST, "open() == 399; settle(0|398, 1) = 398|397; open() = 397")
                .run(States.HALF_SETTLED, "open() = 3; fork(); open() = 0")
                .run(States.HALF_SETTLED, "open() = 3; merge() = 6; open() = 6")
                .run(States.SETTLED, "accept(); open() = 0; merge() = 2; open() = 2");
    }

    private static void kindOf(Document.Section promise) {
        promise.says("Returns the kind of a conflict.")
                .runInEach(States.LISTED, "kindOf(0..5) == 3|4|2|1|5|6");
        promise.says("`place`: its place in the list, from 0")
                .run(States.AT_ODDS, "kindOf(0|5) = 3|6; kindOf(" + NO_PLACE + ") ! out")
                .run(States.FULL_LIST, "kindOf(0|398) = 4|6; kindOf(-1|399) ! out");
        promise.says("Returns 1 to 6.")
                .run(States.FULL_LIST, "kindOf(0..7) = 4; kindOf(8..9|198..199) = 1",
                        "kindOf(200|206) = 5; kindOf(207|398) = 6");
        noSuchConflict(promise, "kindOf", "");
    }

    private static void keyOf(Document.Section promise) {
        promise.says("Returns the key of the row that a conflict is about.")
                .runInEach(States.LISTED, "keyOf(2|3|5) == 1|0|0")
                .run(States.FULL_LIST, "keyOf(8|15|16|199) = 0|0|1|23",
                        "keyOf(207|214|398) = 0|0|23");
        promise.says("`place`: its place in the list, from 0")
                .run(States.AT_ODDS, "keyOf(0|5) = -1|0; keyOf(" + NO_PLACE + ") ! out")
                .run(States.FULL_LIST, "keyOf(0|398) = -1|23; keyOf(-1|399) ! out");
        promise.says("Returns the key; NONE for the kinds 3, 4 and 5.")
                .runInEach(States.LISTED, "keyOf(0..5) == -1|-1|1|0|-1|0")
                .run(States.FULL_LIST, "keyOf(0|7|8) = -1|-1|0; keyOf(199..200|206..207)"
                        + " = 23|-1|-1|0");
        noSuchConflict(promise, "keyOf", "");
    }

    private static void columnOf(Document.Section promise) {
        promise.says("Returns the column that a conflict is about.")
                .runInEach(States.LISTED, "columnOf(0|1|3|4|5) == 0|1|2|3|3")
                .run(States.FULL_LIST, "columnOf(0|7|8|15|16|199) = 0|7|0|7|0|7",
                        "columnOf(200|206|207|214|398) = 1|7|0|7|7");
        promise.says("`place`: its place in the list, from 0")
                .run(States.AT_ODDS, "columnOf(0|5) = 0|3; columnOf(" + NO_PLACE + ") ! out")
                .run(States.FULL_LIST, "columnOf(0|398) = 0|7; columnOf(-1|399) ! out");
        promise.says("Returns the number of the column; NONE for the kind 2.")
                .runInEach(States.LISTED, "columnOf(0..5) == 0|1|-1|2|3|3");
        noSuchConflict(promise, "columnOf", "");
    }

    private static void noSuchConflict(Document.Section promise, String call, String side) {
        promise.says("Throws `IndexOutOfBoundsException` if there is no such conflict"
                + (side.isEmpty() ? "" : " or side"))
                .runInEach(States.UNLISTED, call + "(" + NO_PLACE_AT_ALL + side + ") ! out")
                .runInEach(States.LISTED, call + "(" + NO_PLACE + side + ") ! out")
                // the places of a longer list before are none any more
                .run(States.AT_ODDS, "fork() = 8; " + call + "(0..6" + side + ") ! out",
                        "rename(1, 0, 13); merge() = 1; " + call + "(1..6" + side + ") ! out")
                .run(States.SETTLED, "accept() = 4; " + call + "(0..6" + side + ") ! out");
    }

    private static void settle(Document.Section promise) {
        promise.says("Settles a conflict by taking a side.")
                .run(States.AT_ODDS, "settle(3, 1) = 5; open() = 5; get(3, 0, 2) = 3")
                .run(States.AT_ODDS, "settle(3, 2) = 5; open() = 5; get(3, 0, 2) = 4")
                // the tables that are merged stay
                .run(States.AT_ODDS, "settle(0..5, 2); columns(0..2) = 15|15|14",
                        "rows(0..2) = 3|1|3; get(0..1, 0, 2) = 0|3; name(0..2, 1) = 11|51|52");
        sidesOfEachKind(promise.says("For the kind 1 the cell becomes that of the side, for the"
                + " kind 4 the name becomes that of the side; for the kinds 2 and 3 the row or"
                + " the column stays if the side has it, and is removed from the merged table"
                + " otherwise."));
        promise.says("For the kinds 5 and 6 nothing changes, whichever side is taken.")
                .run(States.AT_ODDS, "settle(4|5, 1); name(3, 0..3) = 50|51|12|51; columns(3) = 15",
                        "rows(3) = 3; get(3, 0..1, 0..3) = 0|0|3|20|0|0|5|0")
                .run(States.AT_ODDS, "settle(4|5, 2); name(3, 0..3) = 50|51|12|51; columns(3) = 15",
                        "rows(3) = 3; get(3, 0..1, 0..3) = 0|0|3|20|0|0|5|0");
        promise.says("The list stays as it is.")
                .run(States.AT_ODDS, "settle(0..5, 2);" + States.LIST_AT_ODDS,
                        "settle(0, 1) ! state; accept() = 6")
                // also where what is settled takes away what other conflicts are about
                .run(States.FORKED, "setReference(0, true); set(1, 1, 0, 9); removeRow(2, 1)",
                        "rename(1, 0, 11); dropColumn(2, 0); merge() = 4",
                        "list = 3:-1:0 2:1:-1 5:-1:1 6:1:0; settle(0|1, 2) = 3|2",
                        "list = 3:-1:0 2:1:-1 5:-1:1 6:1:0; columns(3) = 2; rows(3) = 1",
                        "settle(2|3, 1) = 1|0; columns(3) = 2; rows(3) = 1; accept() = 1");
        promise.says("`place`: its place in the list, from 0")
                .run(States.AT_ODDS, "settle(" + NO_PLACE + ", 1..2) ! out; settle(0|5, 1) = 5|4")
                .run(States.FULL_LIST, "settle(-1|399, 1) ! out; settle(0|398, 2) = 398|397");
        promise.says("`side`: 1 or 2")
                .run(States.AT_ODDS, "settle(0..5, " + NO_SIDE + ") ! out; settle(0, 1) = 5",
                        "settle(1, 2) = 4");
        promise.says("Returns how many conflicts are not settled then.")
                .run(States.AT_ODDS, "settle(5|0|3|1|4|2, 1) = 5|4|3|2|1|0")
                .run("addColumn(1, 0, 5); addColumn(2, 0, 6); merge() = 1; settle(0, 1) = 0")
                .run(States.FULL_LIST, "settle(0..9, 2) = 398|397|396|395|394|393|392|391|390|389");
        noSuchConflict(promise, "settle", ", 1..2");
        promise.says("Throws `IllegalStateException` if it is settled, or the list is not fresh")
                .run(States.HALF_SETTLED, "settle(0|3|5, 1..2) ! state; get(3, 0, 2) = 4",
                        "settle(1, 1) = 2; settle(1, 1..2) ! state")
                .run(States.SETTLED, "settle(0..5, 1..2) ! state; accept() = 4")
                .run(States.NOT_FRESH, "settle(0..5, 1..2) ! state; merge() = 6; settle(3, 1) = 5")
                .run(States.SETTLED_NOT_FRESH, "settle(0..5, 1..2) ! state");
    }

    private static void sidesOfEachKind(Document.Sentence sentence) {
        for (int side = 1; side <= 2; side++) {
            // the side that changed, and the other one, which dropped or removed
            String other = "" + (3 - side);
            sentence.run(States.FORKED, "set(1, 1, 1, -9999); set(2, 1, 1, 9999); merge() = 1",
                    "settle(0, " + side + ") = 0; get(3, 1, 1) = " + (side == 1 ? -9999 : 9999),
                    "accept() = 4; get(0, 1, 1) = " + (side == 1 ? -9999 : 9999));
            sentence.run(States.FORKED, "rename(1, 1, 0); rename(2, 1, 99); merge() = 1",
                    "settle(0, " + side + ") = 0; name(3, 1) = " + (side == 1 ? 0 : 99),
                    "accept() = 4; name(0, 1) = " + (side == 1 ? 0 : 99));
            String row = "set(" + side + ", 1, 1, 5); removeRow(" + other + ", 1); merge() = 1;"
                    + "list = 2:1:-1; rows(3) = 3;";
            sentence.run(States.FORKED, row, "settle(0, " + side + ") = 0; rows(3) = 3",
                    "get(3, 1, 0..1) = 0|5; accept() = 4; get(0, 1, 1) = 5");
            sentence.run(States.FORKED, row, "settle(0, " + other + ") = 0; rows(3) = 1",
                    "get(3, 1, 0..1) ! out; columns(3) = 3; accept() = 2; rows(0..2) = 1",
                    "addRow(0, 1); get(0, 1, 0..1) = 0");
            String column = "set(" + side + ", 1, 1, 5); dropColumn(" + other + ", 1); merge() = 1;"
                    + "list = 3:-1:1; columns(3) = 3;";
            sentence.run(States.FORKED, column, "settle(0, " + side + ") = 0; columns(3) = 3",
                    "name(3, 1) = 11; get(3, 0..1, 1) = 0|5; accept() = 4; get(0, 1, 1) = 5");
            sentence.run(States.FORKED, column, "settle(0, " + other + ") = 0; columns(3) = 1",
                    "name(3, 1) ! out; get(3, 0..1, 1) ! out; rows(3) = 3; accept() = 2",
                    "columns(0..2) = 1; addColumn(0, 1, 11); get(0, 0..1, 1) = 0");
        }
    }
}
