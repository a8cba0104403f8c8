import java.util.function.Supplier;

/** Counts the answers that are not as due; each test class makes one and ends with its finish(). */
final class Check {
    private final String name;
    private String sentence = "";
    private int asked;
    private int wrong;

    Check(String name) {
        this.name = name;
    }

    /** The sentence of the document's section "Terms" that the answers after this hold. */
    void terms(String held) {
        sentence = "Terms, \"" + held + "\"";
    }

    /** The sentence of a promise that the answers after this hold. */
    void promise(int number, String held) {
        sentence = "Promise " + number + ", \"" + held + "\"";
    }

    /** Compared as texts, which tell each int, long, boolean and double from any other. */
    void due(String call, Object answer, Object due) {
        asked++;
        if (!String.valueOf(answer).equals(String.valueOf(due))) {
            wrong++;
            System.out.println(name + ": " + call + " answered " + answer + ", due is " + due + "   " + sentence);
        }
    }

    /** The answer of a call, or the simple name of the class of what it threw, behind "throws.". */
    static Object ask(Supplier<Object> call) {
        try {
            return call.get();
        } catch (RuntimeException e) {
            return "throws." + e.getClass().getSimpleName();
        }
    }

    void finish() {
        System.out.println(name + ": " + asked + " answers, " + wrong + " wrong");
        if (wrong != 0 || asked == 0) {
            System.exit(1);
        }
    }
}
