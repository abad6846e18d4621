import java.lang.reflect.InvocationTargetException;
import java.lang.reflect.Method;
import java.util.ArrayList;
import java.util.HashMap;
import java.util.List;
import java.util.Map;

/** One call of the face, told as a text such as "set(1, 3, 0, 77)", and what it answers. */
final class Call {
    private static final Map<String, Method> FACE = new HashMap<>();

    static {
        for (Method method : TableSplice.class.getDeclaredMethods()) {
            FACE.put(method.getName(), method);
        }
    }

    private final Method method;
    private final Object[] arguments;

    private Call(Method method, List<Object> arguments) {
        this.method = method;
        this.arguments = arguments.toArray();
    }

    /**
     * All calls that a text tells. An argument may be a range (0..7), a choice (-1|8|MIN|MAX), or
     * both; every combination is a call, the last argument running first. 10+# is 10 for the first
     * of these calls, 11 for the next, and so on.
     */
    static List<Call> all(String text) {
        int open = text.indexOf('(');
        Method method = FACE.get(text.substring(0, open));
        if (method == null || !text.endsWith(")")) {
            throw new IllegalStateException("the test tells no call: " + text);
        }
        List<List<Object>> rows = new ArrayList<>();
        rows.add(new ArrayList<>());
        for (String argument : text.substring(open + 1, text.length() - 1).split(",")) {
            if (!argument.isBlank()) {
                rows = eachWith(rows, choices(argument.trim()));
            }
        }
        List<Call> calls = new ArrayList<>();
        for (List<Object> row : rows) {
            int place = calls.size();
            row.replaceAll(one -> one instanceof String ? counted((String) one, place) : one);
            calls.add(new Call(method, row));
        }
        return calls;
    }

    private static List<List<Object>> eachWith(List<List<Object>> rows, List<Object> choices) {
        List<List<Object>> longer = new ArrayList<>();
        for (List<Object> row : rows) {
            for (Object choice : choices) {
                List<Object> copy = new ArrayList<>(row);
                copy.add(choice);
                longer.add(copy);
            }
        }
        return longer;
    }

    private static List<Object> choices(String argument) {
        List<Object> choices = new ArrayList<>();
        for (String choice : argument.split("\\|")) {
            int dots = choice.indexOf("..");
            if (dots < 0) {
                choices.add(value(choice));
                continue;
            }
            int last = Integer.parseInt(choice.substring(dots + 2));
            for (int i = Integer.parseInt(choice.substring(0, dots)); i <= last; i++) {
                choices.add(i);
            }
        }
        return choices;
    }

    private static Object value(String choice) {
        switch (choice) {
            case "true": return true;
            case "false": return false;
            case "MIN": return Integer.MIN_VALUE;
            case "MAX": return Integer.MAX_VALUE;
            default: return choice.endsWith("+#") ? choice : (Object) Integer.decode(choice);
        }
    }

    private static Object counted(String choice, int place) {
        return Integer.parseInt(choice.substring(0, choice.length() - 2)) + place;
    }

    /** The answers due for so many calls: one for all (maybe with +#), or a choice for each. */
    static List<String> answers(String text, int count) {
        String[] choices = text.split("\\|");
        if (choices.length != 1 && choices.length != count) {
            throw new IllegalStateException(count + " calls, but the answers are " + text);
        }
        List<String> answers = new ArrayList<>();
        for (int place = 0; place < count; place++) {
            Object answer = value(choices[choices.length == 1 ? 0 : place]);
            answers.add(answer instanceof String ? counted((String) answer, place).toString()
                    : answer.toString());
        }
        return answers;
    }

    /** The number, or true or false, or the name of the exception's very class. */
    String answer(TableSplice x) {
        try {
            return method.invoke(x, arguments).toString();
        } catch (InvocationTargetException thrown) {
            return thrown.getCause().getClass().getSimpleName();
        } catch (IllegalAccessException | IllegalArgumentException wrongCall) {
            throw new IllegalStateException("the test tells no call: " + this, wrongCall);
        }
    }

    static boolean isRefusal(String answer) {
        return answer.endsWith("Exception") || answer.endsWith("Error");
    }

    /** True for the calls that read and leave all as it is. */
    boolean reads() {
        return List.of("columns", "rows", "name", "get", "changes", "cellByChanges", "conflicts",
                "open", "kindOf", "keyOf", "columnOf").contains(method.getName());
    }

    @Override
    public String toString() {
        StringBuilder text = new StringBuilder(method.getName());
        for (int i = 0; i < arguments.length; i++) {
            text.append(i == 0 ? "(" : ", ").append(arguments[i]);
        }
        return text.append(arguments.length == 0 ? "()" : ")").toString();
    }
}
