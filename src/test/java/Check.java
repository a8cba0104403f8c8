import java.util.function.Supplier;

/** Counts the answers that are not as due; each test class makes one and ends with its finish(). */
final class Check {
    private final String name;
    private int asked;
    private int wrong;

    Check(String name) {
        this.name = name;
    }

    void due(String call, Object answer, Object due) {
        asked++;
        if (!answer.equals(due)) {
            wrong++;
            System.out.println(name + ": " + call + " answered " + answer + ", due is " + due);
        }
    }

    /** The answer of a call, or the simple name of the class of what it threw, behind "throws.". */
    static Object ask(Supplier<Object> call) {
        try {
            return call.get();
        } catch (RuntimeException e) {
            return "throws." + e.getClass().getSimpleName();
        }
    }

    void asks(String call, Supplier<Object> made, Object due) {
        due(call, ask(made), due);
    }

    void index(String call, Supplier<Object> made) {
        asks(call, made, "throws.IndexOutOfBoundsException");
    }

    void argument(String call, Supplier<Object> made) {
        asks(call, made, "throws.IllegalArgumentException");
    }

    void state(String call, Supplier<Object> made) {
        asks(call, made, "throws.IllegalStateException");
    }

    void kind(String call, Supplier<Object> made) {
        asks(call, made, "throws.UnsupportedOperationException");
    }

    void none(String call, Supplier<Object> made) {
        asks(call, made, "throws.NoSuchElementException");
    }

    void finish() {
        System.out.println(name + ": " + asked + " answers, " + wrong + " wrong");
        if (wrong != 0) {
            System.exit(1);
        }
    }
}
