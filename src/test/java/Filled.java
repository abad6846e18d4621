/** Objects in states that several tests begin with. */
final class Filled {
    private Filled() {
    }

    /** All three tables alike: columns 0 to count - 1 named 10, 11, .., and the keys given. */
    static TableSplice forked(int count, int... keys) {
        TableSplice x = new TableSplice();
        for (int column = 0; column < count; column++) {
            x.addColumn(TableSplice.BASE, column, 10 + column);
        }
        for (int key : keys) {
            x.addRow(TableSplice.BASE, key);
        }
        x.fork();
        return x;
    }

    /** A column 0 and a row 0 in all three tables, with these cells. */
    static TableSplice oneCell(int rule, int b, int o, int t) {
        TableSplice x = forked(1, 0);
        x.setRule(0, rule);
        x.set(0, 0, 0, b);
        x.set(1, 0, 0, o);
        x.set(2, 0, 0, t);
        return x;
    }

    /** A column 0 and a row 0 in both sides, but not in the base, with these cells. */
    static TableSplice oneAddedCell(int rule, int o, int t) {
        TableSplice x = new TableSplice();
        x.setRule(0, rule);
        for (int side = 1; side <= 2; side++) {
            x.addColumn(side, 0, 7);
            x.addRow(side, 0);
        }
        x.set(1, 0, 0, o);
        x.set(2, 0, 0, t);
        return x;
    }

    /** A merge with one conflict of each kind, in the order 3, 4, 2, 1, 5, 6. */
    static TableSplice oneOfEachKind() {
        TableSplice x = forked(4, 0, 1);
        x.dropColumn(2, 0);
        x.rename(1, 0, 50);
        x.rename(1, 1, 51);
        x.rename(2, 1, 52);
        x.removeRow(1, 1);
        x.set(2, 1, 2, 5);
        x.set(1, 0, 2, 3);
        x.set(2, 0, 2, 4);
        x.rename(1, 3, 51);
        x.setReference(3, true);
        x.set(2, 0, 3, 20);
        x.merge();
        return x;
    }

    /** Each of the eight calls that fill or set; the calls 2, 5, 6 and 7 change nothing by it. */
    static void fillByCall(TableSplice x, int call) {
        switch (call) {
            case 0: x.addColumn(1, 7, 70); break;
            case 1: x.dropColumn(1, 0); break;
            case 2: x.rename(1, 0, 10); break;
            case 3: x.addRow(2, 7); break;
            case 4: x.removeRow(0, 0); break;
            case 5: x.set(0, 0, 0, 0); break;
            case 6: x.setRule(0, 0); break;
            default: x.setReference(7, false); break;
        }
    }
}
