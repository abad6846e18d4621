import java.util.ArrayList;
import java.util.List;

/**
 * Tells whether a call leaves an object as it was. Of two objects with the same calls behind them
 * one gets the call too; from then on both must answer everything alike: all calls that read, and
 * those that show what can't be read (whether the list is fresh, what is settled, the rules and
 * the references). An object is used for so few calls that each question takes several objects.
 */
final class Untouched {
    private static final int LEAST_ROOM = 50;
    private static final List<Call> READING = calls("columns(0..3)", "rows(0..3)",
            "name(0..3, 0..7)", "changes(1..2)", "conflicts()", "open()", "get(0..3, 0..23, 0..7)",
            "cellByChanges(0..23, 0..7)");

    private final List<Call> before;
    private final int room;
    /** What is asked of one object each, and what it answers without the call. */
    private final List<List<Call>> questions = new ArrayList<>();
    private final List<List<String>> answers = new ArrayList<>();

    Untouched(List<Call> before) {
        this.before = List.copyOf(before);
        room = Run.MOST_CALLS - before.size() - 1;
        if (room >= LEAST_ROOM) {
            askAll();
        }
    }

    private static List<Call> calls(String... texts) {
        List<Call> calls = new ArrayList<>();
        for (String text : texts) {
            calls.addAll(Call.all(text));
        }
        return calls;
    }

    private void askAll() {
        int listed = made().conflicts();
        List<Call> reading = new ArrayList<>(READING);
        reading.addAll(calls("kindOf(0.." + listed + ")", "keyOf(0.." + listed + ")",
                "columnOf(0.." + listed + ")"));
        for (int from = 0; from < reading.size(); from += room) {
            ask(reading.subList(from, Math.min(from + room, reading.size())));
        }
        ask(calls("accept()", "columns(0..3)", "rows(0..3)"));
        ask(calls("settle(0.." + Math.min(listed, room - 30) + ", 2)", "accept()",
                "setRule(0..7, 0)", "setReference(0..7, false)"));
    }

    private void ask(List<Call> question) {
        TableSplice x = made();
        List<String> due = new ArrayList<>();
        for (Call call : question) {
            due.add(call.answer(x));
        }
        questions.add(question);
        answers.add(due);
    }

    private TableSplice made() {
        TableSplice x = new TableSplice();
        for (Call call : before) {
            call.answer(x);
        }
        return x;
    }

    /** What an object answers unlike after the call, or an empty text. */
    String by(Call call) {
        for (int i = 0; i < questions.size(); i++) {
            TableSplice x = made();
            call.answer(x);
            for (int j = 0; j < questions.get(i).size(); j++) {
                String got = questions.get(i).get(j).answer(x);
                String due = answers.get(i).get(j);
                if (!got.equals(due)) {
                    return questions.get(i).get(j) + " then answers " + got + ", not " + due;
                }
            }
        }
        return questions.isEmpty() ? "the run has no room for what is asked then" : "";
    }
}
