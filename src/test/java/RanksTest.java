/** Promises 19 and 20, "Ranks": ranks and results of all kinds. */
public final class RanksTest {
    private static final Check CHECK = new Check("RanksTest");

    public static void main(String[] args) {
        alike();
        alikeTimes();
        otherEventsAsked();
        ranksAsked();
        resultsAsked();
        CHECK.finish();
    }

    private static void alike() {
        CHECK.terms("Those of the final, or of the jump or throw, by results:"
                + " rank 1 more than the number of those who are better.");
        CHECK.promise(19, "Returns the rank, from 1.");
        Run.race(CHECK, 0, 1, 2, 3, 4).times(0, 1, 10, 10, 9, 11, 10).row("rankOf 0 #", 5, "2 2 1 5 2");
        Run.race(CHECK, 0, 1, 2).times(0, 1, 10, 10, 10).row("rankOf 0 #", 3, "1 1 1");
        Run.of(CHECK, 't', 5).puts(0, 0, 10).puts(0, 1, 10).puts(0, 2, 9).puts(0, 3, 11).puts(0, 4, 9)
                .row("rankOf 0 #", 5, "2 2 4 1 4");
        Run.of(CHECK, 'j', 4).does("bar 0 5").jumps(0, 0, "o").jumps(0, 1, "o").jumps(0, 2, "xo").jumps(0, 3, "o")
                .row("rankOf 0 #", 4, "1 1 4 1");
        Run last = Run.of(CHECK, 't', 24);
        for (int i = 0; i < 24; i++) {
            last.puts(0, i, 100 + i);
        }
        last.each("rankOf 0 #", "24 17 16 1", 0, 7, 8, 23);
    }

    private static void alikeTimes() {
        CHECK.terms("In a race, alike times to the thousandth are alike ranks.");
        Run x = Run.race(CHECK, 0, 1, 2).times(0, 1, 9801, 9802, 9801).row("rankOf 0 #", 3, "1 3 1");
        x.gives("time 0 1 1 9801 true 0", 1014).row("rankOf 0 #", 3, "1 3 1");
        x.times(0, 1, 10140).row("rankOf 0 #", 3, "2 2 1");
    }

    /** What was asked of another event before is no part of an answer. */
    private static void otherEventsAsked() {
        CHECK.terms("In a race, alike times to the thousandth are alike ranks.");
        Run x = Run.race(CHECK, 0, 1).times(0, 1, 10, 10).does("event t 1 5 24", "event j 1 5 24", "bar 2 7");
        x.enters(1, 5, 5).puts(1, 0, 9, 8, 7, 6, 5, 4).puts(1, 1, 3).enters(2, 5, 5).jumps(2, 0, "xo").jumps(2, 1, "xo");
        x.row("rankOf 1 #", 2, "1 2").row("rankOf 0 #", 2, "1 1").row("rankOf 1 #", 2, "1 2").row("rankOf 2 #", 2, "1 1");
        x.does("dope 1 true").row("rankOf 2 #", 2, "1 -").row("rankOf 0 #", 2, "1 -").row("rankOf 1 #", 2, "1 -");
    }

    private static void ranksAsked() {
        CHECK.promise(19, "Returns the rank of an athlete in an event.");
        Run x = Run.race(CHECK, 0, 1).times(0, 1, 10).does("event t 1 1 2").row("rankOf 0 #", 2, "1 -");
        CHECK.promise(19, "Throws IndexOutOfBoundsException if there is no such event or athlete");
        x.index("rankOf 2 0", "rankOf -1 0", "rankOf 0 2", "rankOf 0 -1", "rankOf " + Integer.MAX_VALUE + " 0",
                "rankOf 1 " + Integer.MIN_VALUE);
        CHECK.promise(19, "Throws NoSuchElementException if the athlete has none");
        x.none("rankOf 0 1", "rankOf 1 0").does("withdraw 0 0 true").none("rankOf 0 0");
        x.does("withdraw 0 0 false", "dope 0 true").none("rankOf 0 0").does("dope 0 false", "putOut 0 1 0").none("rankOf 0 0");
    }

    private static void resultsAsked() {
        CHECK.promise(20, "Returns the result of an athlete: of a race the time in the final, in thousandths.");
        CHECK.promise(20, "Returns the result.");
        Run x = Run.race(CHECK, 0, 1, 2, 3, 4, 5, 6, 7, 0).times(0, 0, 9801, 9700).none("resultOf 0 0");
        x.times(0, 1, 9911).gives("resultOf 0 0", 9911).none("resultOf 0 1");
        x.does("event t 1 1 2", "enter 1 0 1").puts(1, 0, 5, 9, 7).gives("resultOf 1 0", 9);
        x.does("event j 1 1 2", "enter 2 0 1", "bar 2 8").jumps(2, 0, "xo").gives("resultOf 2 0", 8);
        CHECK.promise(20, "Throws IndexOutOfBoundsException if there is no such event or athlete");
        x.index("resultOf 3 0", "resultOf -1 0", "resultOf 0 9", "resultOf 0 -1", "resultOf " + Integer.MIN_VALUE + " 0",
                "resultOf 1 " + Integer.MAX_VALUE);
        CHECK.promise(20, "Throws NoSuchElementException if the athlete has none");
        x.none("resultOf 0 8", "resultOf 1 1", "resultOf 2 1").does("withdraw 1 0 true", "dope 0 true");
        x.none("resultOf 0 0", "resultOf 1 0", "resultOf 2 0").does("dope 0 false").gives("resultOf 0 0", 9911);
        x.none("resultOf 1 0").gives("resultOf 2 0", 8);
    }
}
