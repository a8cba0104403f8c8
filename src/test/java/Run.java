import java.lang.reflect.InvocationTargetException;
import java.lang.reflect.Method;
import java.util.HashMap;
import java.util.Map;
import java.util.StringJoiner;
import java.util.stream.IntStream;

/** One object and its calls, each told as a text: the name of the method, then the arguments. */
final class Run {
    /** What later calls answer is free, so no test may go by it. */
    private static final int MOST_CALLS = 512;
    private static final Map<String, Method> METHODS = new HashMap<>();

    static {
        for (Method method : HeatStadium.class.getDeclaredMethods()) {
            METHODS.put(method.getName(), method);
        }
    }

    private final Check check;
    private final HeatStadium games = new HeatStadium();
    private int calls;

    Run(Check check) {
        this.check = check;
    }

    /** Athletes of these nations in the race 0, in the order of the field, with quota 5 and limit 24. */
    static Run race(Check check, int... nations) {
        Run run = new Run(check).athletes(nations).does("event r 500 5 24");
        for (int i = 0; i < nations.length; i++) {
            run.does("enter 0 " + i + " " + (100 + i));
        }
        return run;
    }

    /** So many athletes of the nations 0, 1, .., 7, 0, .. in the event 0, in the order of the field. */
    static Run of(Check check, char kind, int count) {
        Run run = new Run(check);
        for (int i = 0; i < count; i++) {
            run.does("athlete " + i % 8);
        }
        run.does("event " + kind + " 500 5 24");
        for (int i = 0; i < count; i++) {
            run.does("enter 0 " + i + " " + (kind == 'r' ? 100 + i : 900 - i));
        }
        return run;
    }

    // ---- calls that are held against what is due

    Run gives(String call, Object due) {
        check.due(call, ask(call), due);
        return this;
    }

    /** Calls that go well, whatever they answer. */
    Run does(String... made) {
        for (String call : made) {
            String answer = ask(call);
            if (answer.startsWith("throws.")) {
                check.due(call, answer, "an answer");
            }
        }
        return this;
    }

    /** The answers for # from 0 to count - 1, with spaces between; a dash for a NoSuchElementException. */
    Run row(String call, int count, String due) {
        check.due(call + " for # below " + count, row(call, count), due);
        return this;
    }

    /** The same for # being each of the values. */
    Run each(String call, String due, int... values) {
        check.due(call + " for each #", answers(call, values), due);
        return this;
    }

    String row(String call, int count) {
        return answers(call, IntStream.range(0, count).toArray());
    }

    private String answers(String call, int[] values) {
        StringJoiner text = new StringJoiner(" ");
        for (int value : values) {
            String answer = ask(call.replace("#", String.valueOf(value)));
            text.add(answer.equals("throws.NoSuchElementException") ? "-" : answer);
        }
        return text.toString();
    }

    Run index(String... refused) {
        return refuses("IndexOutOfBoundsException", refused);
    }

    Run argument(String... refused) {
        return refuses("IllegalArgumentException", refused);
    }

    Run kind(String... refused) {
        return refuses("UnsupportedOperationException", refused);
    }

    Run state(String... refused) {
        return refuses("IllegalStateException", refused);
    }

    Run none(String... refused) {
        return refuses("NoSuchElementException", refused);
    }

    Run refuses(String exception, String... refused) {
        for (String call : refused) {
            gives(call, "throws." + exception);
        }
        return this;
    }

    // ---- many calls in one

    Run athletes(int... nations) {
        for (int nation : nations) {
            does("athlete " + nation);
        }
        return this;
    }

    /** A best for each athlete from 0 on; 0 for who does not enter. */
    Run enters(int event, int... bests) {
        for (int i = 0; i < bests.length; i++) {
            if (bests[i] != 0) {
                does("enter " + event + " " + i + " " + bests[i]);
            }
        }
        return this;
    }

    /** A measured time without wind for each athlete from 0 on; 0 for none. */
    Run times(int event, int round, int... times) {
        for (int i = 0; i < times.length; i++) {
            if (times[i] != 0) {
                does("time " + event + " " + round + " " + i + " " + times[i] + " false 0");
            }
        }
        return this;
    }

    Run jumps(int event, int athlete, String trials) {
        for (char trial : trials.toCharArray()) {
            does("jump " + event + " " + athlete + " " + trial);
        }
        return this;
    }

    Run puts(int event, int athlete, int... lengths) {
        for (int length : lengths) {
            does("put " + event + " " + athlete + " " + length);
        }
        return this;
    }

    // ---- one call

    String ask(String call) {
        calls++;
        if (calls > MOST_CALLS) {
            check.due("calls on one object", calls, "at most " + MOST_CALLS);
        }
        String[] words = call.split(" ");
        Method method = METHODS.get(words[0]);
        Class<?>[] types = method.getParameterTypes();
        Object[] arguments = new Object[types.length];
        for (int i = 0; i < types.length; i++) {
            arguments[i] = argument(types[i], words[i + 1]);
        }
        try {
            return String.valueOf(method.invoke(games, arguments));
        } catch (InvocationTargetException e) {
            return "throws." + e.getCause().getClass().getSimpleName();
        } catch (IllegalAccessException e) {
            throw new IllegalStateException(e);
        }
    }

    /** A character is told as it is, or by its number in two digits or more. */
    private static Object argument(Class<?> type, String word) {
        if (type == boolean.class) {
            return word.equals("true");
        }
        if (type == char.class) {
            return word.length() == 1 ? word.charAt(0) : (char) Integer.parseInt(word);
        }
        return Integer.parseInt(word);
    }
}
