/** An object is used for at most 512 calls: the last of them is answered as the first ones are. */
public final class LongRunsTest {
    private static final int CALLS = 512;
    private static final Check CHECK = new Check("LongRunsTest");

    public static void main(String[] args) {
        minutes();
        protests();
        marks();
        falseStarts();
        CHECK.finish();
    }

    private static void minutes() {
        CHECK.promise(8, "Returns the minute.");
        Run x = new Run(CHECK);
        for (int i = 1; i <= CALLS; i++) {
            x.gives("pass 9999", 9999 * i);
        }
    }

    /** As many protests as there is time for: 30 athletes, 4 races, and two calls for each. */
    private static void protests() {
        CHECK.promise(21, "Returns the number of the protest, from 0.");
        Run x = new Run(CHECK);
        for (int i = 0; i < 30; i++) {
            x.does("athlete " + i % 8);
        }
        x.does("event r 1 1 2", "event r 1 1 2", "event r 1 1 2", "event r 1 1 2");
        int left = CALLS - 34;
        int number = 0;
        for (; left > 2; left -= 2) {
            String where = number / 60 + " " + number / 30 % 2 + " " + number % 30;
            x.does("putOut " + where).gives("protest " + where, number);
            number++;
        }
        x.gives("decide " + (number - 1) + " false", 100).index("decide " + number + " true");
    }

    private static void marks() {
        CHECK.terms("of several alike, the one that was marked first holds it, and others share it");
        Run x = Run.race(CHECK, 0, 1);
        for (int i = 5; i < CALLS - 3; i++) {
            x.does("time 0 1 " + i % 2 + " 77 false 0");
        }
        // 0 was told again with the call before these three, and 1 with that before it
        x.gives("holder 0", 1).gives("sharers 0", 2).gives("record 0", 77);
    }

    private static void falseStarts() {
        CHECK.terms("once for each round");
        Run x = Run.race(CHECK, 0).does("react 0 1 0 99", "protest 0 1 0", "decide 0 true");
        for (int i = 6; i < CALLS - 4; i++) {
            x.gives("react 0 1 0 100", false);
        }
        x.gives("react 0 1 0 99", true).state("protest 0 1 0").gives("isOut 0 1 0", true).index("decide 1 true");
    }
}
