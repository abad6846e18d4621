/** States that the sentences' runs begin with, as rows of a Run. */
final class States {
    static final String NEW = "";

    /** The columns 0 and 1, named 10 and 11, and the rows 0 and 1, in the base and both sides. */
    static final String FORKED = "addColumn(0, 0..1, 10+#); addRow(0, 0..1); fork() = 4;";

    /** The same with a cell 7 that is the merged one, too, and no conflict. */
    static final String AGREED = FORKED + "set(1, 1, 1, 7); merge() = 0;";

    /** A fresh list with a conflict of each kind, none settled. */
    static final String AT_ODDS = "addColumn(0, 0..3, 10+#); addRow(0, 0..1); fork() = 8;"
            + "dropColumn(2, 0); rename(1, 0, 50); rename(1, 1, 51); rename(2, 1, 52);"
            + "removeRow(1, 1); set(2, 1, 2, 5); set(1, 0, 2, 3); set(2, 0, 2, 4);"
            + "rename(1, 3, 51); setReference(3, true); set(2, 0, 3, 20); merge() = 6;";
    static final String LIST_AT_ODDS = "list = 3:-1:0 4:-1:1 2:1:-1 1:0:2 5:-1:3 6:0:3;";

    /** The same, some of them settled. */
    static final String HALF_SETTLED = AT_ODDS + "settle(0|3|5, 2) = 5|4|3;";

    /** The same, all settled, still fresh. */
    static final String SETTLED = AT_ODDS + "settle(0..5, 1) = 5|4|3|2|1|0;";

    /** The same conflicts, some settled, in a list that is not fresh. */
    static final String NOT_FRESH = AT_ODDS + "settle(3, 2) = 5; setRule(5, 2);";

    /** All settled in a list that is not fresh. */
    static final String SETTLED_NOT_FRESH = SETTLED + "setRule(5, 2);";

    static final String ACCEPTED = SETTLED + "accept() = 4;";

    static final String[] ALL = {NEW, FORKED, AGREED, AT_ODDS, HALF_SETTLED, SETTLED, NOT_FRESH,
        SETTLED_NOT_FRESH, ACCEPTED};

    /** Those in which the columns 0 and 1 and the row 0 are in the base and in ours. */
    static final String[] FILLED = {FORKED, AGREED, AT_ODDS, HALF_SETTLED, SETTLED, NOT_FRESH,
        SETTLED_NOT_FRESH, ACCEPTED};

    /** Those in which the list has those six conflicts. */
    static final String[] LISTED = {AT_ODDS, HALF_SETTLED, SETTLED, NOT_FRESH, SETTLED_NOT_FRESH};

    /** Those in which the list has no conflict. */
    static final String[] UNLISTED = {NEW, FORKED, AGREED, ACCEPTED};

    static final String[] NOT_TO_ACCEPT = {NEW, FORKED, AT_ODDS, HALF_SETTLED, NOT_FRESH,
        SETTLED_NOT_FRESH, ACCEPTED};

    /** All columns and rows in the base. */
    static final String FULL_BASE = "addColumn(0, 0..7, 10+#) = 1+#; addRow(0, 0..23) = 1+#;";

    /** All columns and rows in both sides, and in each list that a merge can make no more. */
    static final String FULL_LIST = "addColumn(1, 0..7, 1); addColumn(2, 0..7, 2);"
            + "setReference(0..7, true); addRow(1..2, 0..23); set(1, 0..23, 0..7, 99);"
            + "merge() = 399;";

    private States() {
    }

    /** Each round makes 2 v + 9999 of a cell v of sums; the next merge leaves an int's range. */
    static String sumBeyondAnInt() {
        return "setRule(0, 3); addColumn(0, 0, 5); addRow(0, 0); fork() = 1;"
                + "set(0, 0, 0, -9999); merge() = 0; accept() = 1;".repeat(17)
                + "get(0..2, 0, 0) = 1310578929; set(0, 0, 0, -9999);";
    }
}
