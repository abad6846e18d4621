import java.util.Arrays;
import java.util.Random;

/** Many runs of 512 calls, the same in each test, every answer against the Model's. */
public final class ModelTest {
    private static final int RUNS = 3000;
    private static final int CALLS = 512;
    private static final int CALL_KINDS = 23;
    /** How often each call is made, in the order of the face. */
    private static final int[] WEIGHTS = {
        6, 3, 4, 8, 4, 24, 2, 2, 3, 3, 4, 10, 4, 1, 6, 2, 8, 2, 2, 5, 5, 5, 10};
    private static final int WEIGHT = Arrays.stream(WEIGHTS).sum();

    private final Random random;
    private final int keyRange;
    private final int columnRange;
    private final int valueRange;
    private final int wrongOneIn;
    private final TableSplice x = new TableSplice();
    private final Model model = new Model();

    private static final int[] answered = new int[CALL_KINDS];
    private static final int[] refused = new int[CALL_KINDS];
    private static final int[] kindsSeen = new int[7];

    private ModelTest(int seed) {
        random = new Random(seed);
        keyRange = 1 + random.nextInt(seed % 3 == 0 ? 24 : 4);
        columnRange = 1 + random.nextInt(seed % 4 == 0 ? 8 : 3);
        valueRange = 2 + random.nextInt(seed % 5 == 0 ? 40 : 5);
        wrongOneIn = 10 + random.nextInt(60);
    }

    public static void main(String[] args) {
        for (int seed = 0; seed < RUNS && Check.wrongSoFar() == 0; seed++) {
            new ModelTest(seed).run(seed);
        }
        // the runs are worth something only if they reach every answer and every kind of conflict
        for (int call = 0; call < CALL_KINDS; call++) {
            Check.due("often answered: call " + call, answered[call] > 500, true);
            boolean canRefuse = call != 13 && call != 14 && call != 17 && call != 18;
            Check.due("often refused: call " + call, refused[call] > 100, canRefuse);
        }
        for (int kind = 1; kind <= 6; kind++) {
            Check.due("often listed: kind " + kind, kindsSeen[kind] > 1000, true);
        }
        Check.end();
    }

    private void run(int seed) {
        fillAll();
        for (int count = countOfFilling(); count < CALLS; count++) {
            if (!callBoth(seed, count)) {
                return;
            }
        }
    }

    private int countOfFilling() {
        return keyRange + columnRange + 1;
    }

    /** Most runs begin with tables that are alike, as in ordinary use. */
    private void fillAll() {
        for (int column = 0; column < columnRange; column++) {
            x.addColumn(0, column, 10 + column);
            model.addColumn(0, column, 10 + column);
        }
        for (int key = 0; key < keyRange; key++) {
            x.addRow(0, key);
            model.addRow(0, key);
        }
        Check.due("fork", x.fork(), model.fork());
    }

    private boolean callBoth(int seed, int count) {
        int call = nextCall();
        int table = random.nextInt(4) == 0 ? aside(0, 3) : aside(0, 2);
        int key = aside(0, keyRange - 1);
        int column = aside(0, columnRange - 1);
        int number = argumentOf(call);
        long got = answerOf(call, table, key, column, number, true);
        long want = answerOf(call, table, key, column, number, false);
        Check.due("run " + seed + ", call " + count + " (" + call + ": " + table + ", " + key + ", "
                + column + ", " + number + ")", got, want);
        note(call, want);
        return got == want;
    }

    private void note(int call, long answer) {
        if (answer >= Long.MAX_VALUE - 3) {
            refused[call]++;
        } else {
            answered[call]++;
        }
        if (call == 19 && answer >= 1 && answer <= 6) {
            kindsSeen[(int) answer]++;
        }
    }

    private int nextCall() {
        int at = random.nextInt(WEIGHT);
        int call = 0;
        while (at >= WEIGHTS[call]) {
            at -= WEIGHTS[call];
            call++;
        }
        return call;
    }

    /** A number from low to high, or now and then one that may be outside of all ranges. */
    private int aside(int low, int high) {
        if (random.nextInt(wrongOneIn) != 0) {
            return low + random.nextInt(high - low + 1);
        }
        int[] odd = {-1, 3, 4, 7, 8, 23, 24, 32, 33, 99, 100, 9999, 10000, -9999, -10000,
            Integer.MIN_VALUE, Integer.MAX_VALUE};
        return odd[random.nextInt(odd.length)];
    }

    private int argumentOf(int call) {
        switch (call) {
            case 0:
            case 2:
                return aside(10, 12);
            case 5:
                return aside(-2, valueRange);
            case 6:
                return aside(0, 3);
            case 7:
                return random.nextInt(2);
            default:
                return aside(0, Math.max(0, model.conflicts() - 1));
        }
    }

    private long answerOf(int call, int table, int key, int column, int number, boolean real) {
        try {
            return real ? real(call, table, key, column, number)
                    : modelled(call, table, key, column, number);
        } catch (RuntimeException thrown) {
            Class<?> kind = thrown.getClass();
            if (kind == IndexOutOfBoundsException.class) {
                return Long.MAX_VALUE;
            }
            if (kind == IllegalArgumentException.class) {
                return Long.MAX_VALUE - 1;
            }
            return kind == IllegalStateException.class ? Long.MAX_VALUE - 2 : Long.MIN_VALUE;
        }
    }

    private long real(int call, int table, int key, int column, int number) {
        switch (call) {
            case 0: return x.addColumn(table, column, number);
            case 1: return x.dropColumn(table, column);
            case 2: return x.rename(table, column, number);
            case 3: return x.addRow(table, key);
            case 4: return x.removeRow(table, key);
            case 5: return x.set(table, key, column, number);
            case 6: return x.setRule(column, number);
            case 7: return x.setReference(column, number == 1) ? 1 : 0;
            case 8: return x.columns(table);
            case 9: return x.rows(table);
            case 10: return x.name(table, column);
            case 11: return x.get(table, key, column);
            case 12: return x.changes(table);
            case 13: return x.fork();
            case 14: return x.merge();
            case 15: return x.accept();
            case 16: return x.cellByChanges(key, column);
            case 17: return x.conflicts();
            case 18: return x.open();
            case 19: return x.kindOf(number);
            case 20: return x.keyOf(number);
            case 21: return x.columnOf(number);
            default: return x.settle(number, table);
        }
    }

    private long modelled(int call, int table, int key, int column, int number) {
        switch (call) {
            case 0: return model.addColumn(table, column, number);
            case 1: return model.dropColumn(table, column);
            case 2: return model.rename(table, column, number);
            case 3: return model.addRow(table, key);
            case 4: return model.removeRow(table, key);
            case 5: return model.set(table, key, column, number);
            case 6: return model.setRule(column, number);
            case 7: return model.setReference(column, number == 1) ? 1 : 0;
            case 8: return model.columns(table);
            case 9: return model.rows(table);
            case 10: return model.name(table, column);
            case 11: return model.get(table, key, column);
            case 12: return model.changes(table);
            case 13: return model.fork();
            case 14: return model.merge();
            case 15: return model.accept();
            case 16: return model.cellByChanges(key, column);
            case 17: return model.conflicts();
            case 18: return model.open();
            case 19: return model.partOf(number, 0);
            case 20: return model.partOf(number, 1);
            case 21: return model.partOf(number, 2);
            default: return model.settle(number, table);
        }
    }
}
