/** Promises 1 to 5 and 8, "Athletes and events": new games, athletes, events, entries, withdrawals, the clock. */
public final class EntriesTest {
    private static final Check CHECK = new Check("EntriesTest");
    private static final String LEAST = String.valueOf(Integer.MIN_VALUE);
    private static final String MOST = String.valueOf(Integer.MAX_VALUE);

    public static void main(String[] args) {
        newGames();
        athletes();
        thirtyAthletes();
        events();
        numbersOfEvents();
        fiveEvents();
        entering();
        enteringAgain();
        enteringRefused();
        withdrawing();
        withdrawingRefused();
        clock();
        CHECK.finish();
    }

    private static void newGames() {
        CHECK.promise(1, "Creates games without athletes and events, at the minute 0.");
        new Run(CHECK).index("field 0", "inField 0 0", "close 0 true", "record 0", "dope 0 true", "decide 0 true")
                .row("medals # 0", 8, "0 0 0 0 0 0 0 0")
                .row("inTable # false", 8, "0 1 2 3 4 5 6 7")
                .row("points #", 8, "0.0 0.0 0.0 0.0 0.0 0.0 0.0 0.0")
                .gives("isTrue", true)
                .gives("athlete 0", 0)
                .gives("event r 1 1 2", 0)
                .gives("pass 1", 1);
        Run other = new Run(CHECK);
        new Run(CHECK).does("athlete 0", "event r 1 1 2", "pass 5");
        other.index("field 0", "dope 0 true").gives("pass 1", 1);
        CHECK.terms("There is a clock in minutes, 0 at first.");
        new Run(CHECK).gives("pass 7", 7);
    }

    private static void athletes() {
        CHECK.promise(2, "nation: the nation, 0 to 7");
        new Run(CHECK).does("athlete 0", "athlete 7");
        CHECK.promise(2, "Adds an athlete.");
        new Run(CHECK).index("dope 0 true").does("athlete 3").gives("dope 0 true", false).index("dope 1 true");
        CHECK.promise(2, "Throws IllegalArgumentException if there is no such nation");
        new Run(CHECK).argument("athlete -1", "athlete 8", "athlete " + LEAST, "athlete " + MOST)
                .index("dope 0 true").gives("athlete 0", 0);
    }

    private static void thirtyAthletes() {
        Run x = new Run(CHECK);
        CHECK.promise(2, "Returns the number of the athlete.");
        CHECK.terms("At most 30 athletes are numbered from 0, each of a nation, 0 to 7.");
        for (int i = 0; i < 30; i++) {
            x.gives("athlete " + i % 8, i);
        }
        CHECK.promise(2, "Throws IllegalStateException if there are 30");
        x.state("athlete 0", "athlete 7").argument("athlete 8").gives("dope 29 true", false).index("dope 30 true");
    }

    private static void events() {
        CHECK.promise(3, "kind: 'r', 'j' or 't'");
        new Run(CHECK).does("athlete 0", "event r 1 1 2", "event j 1 1 2", "event t 1 1 2")
                .does("putOut 0 0 0", "bar 1 1", "jump 1 0 o", "put 2 0 1")
                .kind("putOut 1 0 0", "putOut 2 0 0", "bar 0 1", "bar 2 1", "put 0 0 1", "put 1 0 1");
        new Run(CHECK).argument("event R 1 1 2", "event J 1 1 2", "event T 1 1 2", "event q 1 1 2", "event s 1 1 2",
                "event i 1 1 2", "event k 1 1 2", "event u 1 1 2", "event 00 1 1 2", "event 65535 1 1 2");
        CHECK.promise(3, "Adds an event.");
        new Run(CHECK).index("field 0").does("event r 1 1 2").gives("field 0", 0).index("field 1");
    }

    private static void numbersOfEvents() {
        CHECK.promise(3, "standard: the standard, 1 to 999999");
        new Run(CHECK).does("event r 1 1 2", "event r 999999 1 2")
                .argument("event r 0 1 2", "event r 1000000 1 2", "event r " + LEAST + " 1 2", "event r " + MOST + " 1 2");
        CHECK.promise(3, "quota: the quota, 1 to 5");
        new Run(CHECK).does("event j 1 1 2", "event j 1 5 2")
                .argument("event j 1 0 2", "event j 1 6 2", "event j 1 " + LEAST + " 2", "event j 1 " + MOST + " 2");
        CHECK.promise(3, "limit: the limit, 2 to 24");
        new Run(CHECK).does("event t 1 1 2", "event t 1 1 24")
                .argument("event t 1 1 1", "event t 1 1 25", "event t 1 1 " + LEAST, "event t 1 1 " + MOST);
        CHECK.promise(3, "Throws IllegalArgumentException if there is no such kind, or a number is out of range");
        new Run(CHECK).argument("event x 1 1 2", "event r 0 1 2", "event r 1 0 2", "event r 1 1 1", "event x 0 0 0")
                .index("field 0").gives("event r 1 1 2", 0);
    }

    private static void fiveEvents() {
        Run x = new Run(CHECK);
        CHECK.promise(3, "Returns its number.");
        CHECK.terms("At most 5 events are numbered from 0, each of a kind: 'r' a race, 'j' a jump over a bar,"
                + " 't' a throw");
        x.gives("event r 1 1 2", 0).gives("event j 1 1 2", 1).gives("event t 1 1 2", 2).gives("event r 1 1 2", 3)
                .gives("event r 1 1 2", 4);
        CHECK.promise(3, "Throws IllegalStateException if there are 5");
        x.state("event r 1 1 2", "event t 999999 5 24").argument("event x 1 1 2", "event r 1 1 1")
                .gives("field 4", 0).index("field 5");
    }

    private static void entering() {
        CHECK.promise(4, "best: the best, 1 to 999999");
        new Run(CHECK).does("athlete 0", "event r 999999 1 2", "enter 0 0 1", "enter 0 0 999999")
                .argument("enter 0 0 0", "enter 0 0 1000000", "enter 0 0 -1", "enter 0 0 " + LEAST, "enter 0 0 " + MOST);
        CHECK.promise(4, "Returns how many have entered, withdrawn ones included.");
        Run x = new Run(CHECK).athletes(0, 1, 2, 3).does("event r 500 1 2");
        x.gives("enter 0 2 100", 1).does("withdraw 0 2 true").gives("enter 0 1 100", 2);
        x.does("dope 0 true").gives("enter 0 0 100", 3);
        x.gives("enter 0 3 501", 4).gives("field 0", 1);
        Run all = Run.of(CHECK, 't', 30);
        all.gives("enter 0 0 500", 30);
    }

    private static void enteringAgain() {
        CHECK.promise(4, "Enters an athlete, or with another best; one who has withdrawn stays so.");
        Run x = Run.race(CHECK, 0, 1, 2).row("inField 0 #", 3, "0 1 2");
        x.gives("enter 0 0 200", 3).row("inField 0 #", 3, "1 2 0");
        x.gives("enter 0 0 501", 3).row("inField 0 #", 3, "1 2 -");
        x.gives("enter 0 0 1", 3).row("inField 0 #", 3, "0 1 2");
        x.does("withdraw 0 1 true").gives("enter 0 1 1", 3).row("inField 0 #", 3, "0 2 -");
        x.gives("withdraw 0 1 false", true).row("inField 0 #", 3, "0 1 2");
    }

    private static void enteringRefused() {
        CHECK.promise(4, "Throws IndexOutOfBoundsException if there is no such event or athlete");
        Run x = new Run(CHECK).index("enter 0 0 1").athletes(0, 1).does("event j 1 1 2", "enter 0 0 5");
        x.index("enter 1 0 1", "enter -1 0 1", "enter " + LEAST + " 0 1", "enter " + MOST + " 0 1");
        x.index("enter 0 2 1", "enter 0 -1 1", "enter 0 " + LEAST + " 1", "enter 0 " + MOST + " 1");
        CHECK.promise(4, "Throws IllegalArgumentException if it is out of range");
        x.argument("enter 0 1 0", "enter 0 1 1000000").gives("field 0", 1);
        CHECK.promise(4, "Throws IllegalStateException if the event is closed");
        x.does("close 0 true").state("enter 0 1 5", "enter 0 0 6").gives("field 0", 1);
        x.does("close 0 false").gives("enter 0 1 5", 2);
    }

    private static void withdrawing() {
        CHECK.promise(5, "Returns whether it was so.");
        Run x = Run.race(CHECK, 0, 1);
        x.gives("withdraw 0 0 false", false).gives("withdraw 0 0 true", false).gives("withdraw 0 0 true", true);
        x.gives("withdraw 0 0 false", true).gives("withdraw 0 0 false", false);
        CHECK.promise(5, "Withdraws an athlete from an event, or takes that back.");
        x.does("event r 500 5 24", "enter 1 0 100", "withdraw 0 0 true");
        x.row("inField 0 #", 2, "1 -").row("inField 1 #", 1, "0");
        x.does("withdraw 0 1 true").gives("field 0", 0);
        x.does("withdraw 0 0 false").row("inField 0 #", 2, "0 -");
    }

    private static void withdrawingRefused() {
        CHECK.promise(5, "Throws IndexOutOfBoundsException if there is no such event or athlete");
        Run x = new Run(CHECK).index("withdraw 0 0 true").athletes(0, 1).does("event r 500 5 24", "enter 0 0 1");
        x.index("withdraw 1 0 true", "withdraw -1 0 true", "withdraw " + MOST + " 0 false");
        x.index("withdraw 0 2 true", "withdraw 0 -1 true", "withdraw 0 " + LEAST + " false");
        CHECK.promise(5, "Throws NoSuchElementException if the athlete has not entered");
        x.none("withdraw 0 1 true", "withdraw 0 1 false").gives("enter 0 1 2", 2).gives("field 0", 2);
        CHECK.promise(5, "Throws IllegalStateException if the event is closed");
        x.does("close 0 true").state("withdraw 0 0 true", "withdraw 0 0 false").gives("field 0", 2);
        x.does("close 0 false").gives("withdraw 0 0 true", false);
    }

    private static void clock() {
        CHECK.promise(8, "minutes: how many, 1 to 9999");
        new Run(CHECK).does("pass 1", "pass 9999");
        CHECK.promise(8, "Throws IllegalArgumentException if it is out of range");
        new Run(CHECK).argument("pass 0", "pass -1", "pass 10000", "pass " + LEAST, "pass " + MOST).gives("pass 3", 3);
        CHECK.promise(8, "Lets minutes go by.");
        CHECK.promise(8, "Returns the minute.");
        new Run(CHECK).gives("pass 9999", 9999).gives("pass 1", 10000).gives("pass 30", 10030);
    }
}
