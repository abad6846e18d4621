import java.util.ArrayList;
import java.util.List;

/**
 * A run of calls on a new object, told in rows that ";" parts:
 *
 *   addRow(0, 23)             the call answers, whatever it is
 *   addRow(0, 23) = 1         it answers 1
 *   rows(0) == 0x800000       it answers that and leaves all as it was
 *   addRow(0, 24) ! out       it throws that exception and leaves all as it was
 *   list = 3:-1:0 1:5:0       the list has these kinds, keys and columns
 *
 * How one row tells many calls, Call says; a choice of answers (= 1|2) has one for each call.
 */
final class Run {
    static final int MOST_CALLS = 512;

    private final String what;
    private final TableSplice x = new TableSplice();
    /** The calls so far without those that leave all as it was. */
    private final List<Call> lasting = new ArrayList<>();
    /** Made for the calls so far when it is needed first. */
    private Untouched untouched = null;
    private int count = 0;

    private Run(String what) {
        this.what = what;
    }

    /** The object after all these rows. */
    static TableSplice made(String what, String... texts) {
        Run run = new Run(what);
        for (String text : texts) {
            for (String row : text.split(";")) {
                if (!row.isBlank()) {
                    run.row(row.trim());
                }
            }
        }
        Check.due(what + ": the run is longer than an object may be used",
                run.count > MOST_CALLS, false);
        return run.x;
    }

    private void row(String row) {
        if (row.startsWith("list =")) {
            Check.dueList(what, x, row.substring(6).trim());
            count += 1 + 3 * x.conflicts();
            return;
        }
        String[] parts = row.split(" (==|=|!) ", 2);
        List<Call> calls = Call.all(parts[0]);
        if (parts.length == 1) {
            for (Call call : calls) {
                Check.due(what + ": " + call + " is refused", Call.isRefusal(answer(call)), false);
            }
            return;
        }
        boolean refused = row.charAt(parts[0].length() + 1) == '!';
        boolean leavesAll = refused || row.startsWith("==", parts[0].length() + 1);
        List<String> answers = refused ? exceptions(parts[1], calls.size())
                : Call.answers(parts[1], calls.size());
        for (int i = 0; i < calls.size(); i++) {
            if (leavesAll) {
                untouched = untouched == null ? new Untouched(lasting) : untouched;
                Check.due(what + ": " + calls.get(i) + " leaves all as it was",
                        untouched.by(calls.get(i)), "");
            }
            Check.due(what + ": " + calls.get(i), answer(calls.get(i)), answers.get(i));
        }
    }

    private String answer(Call call) {
        count++;
        String answer = call.answer(x);
        if (!call.reads() && !Call.isRefusal(answer)) {
            lasting.add(call);
            untouched = null;
        }
        return answer;
    }

    private static List<String> exceptions(String kind, int count) {
        List<String> names = new ArrayList<>();
        for (int i = 0; i < count; i++) {
            switch (kind) {
                case "out": names.add("IndexOutOfBoundsException"); break;
                case "argument": names.add("IllegalArgumentException"); break;
                case "state": names.add("IllegalStateException"); break;
                default: throw new IllegalStateException("no such exception: " + kind);
            }
        }
        return names;
    }
}
