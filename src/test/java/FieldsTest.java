/** Promises 6 and 7, "Fields": who is in the field, in which order. */
public final class FieldsTest {
    private static final Check CHECK = new Check("FieldsTest");

    public static void main(String[] args) {
        standards();
        betterOfTwo();
        whoIsIn();
        order();
        quotas();
        limits();
        quotasAndLimits();
        closedEvents();
        asTheyStandThen();
        asked();
        CHECK.finish();
    }

    private static void standards() {
        CHECK.terms("whose best is at least as good as the standard");
        new Run(CHECK).athletes(0, 1, 2).does("event r 500 5 24").enters(0, 499, 500, 501).row("inField 0 #", 3, "0 1 -");
        new Run(CHECK).athletes(0, 1, 2).does("event j 500 5 24").enters(0, 499, 500, 501).row("inField 0 #", 3, "2 1 -");
        new Run(CHECK).athletes(0, 1, 2).does("event t 500 5 24").enters(0, 499, 500, 501).row("inField 0 #", 3, "2 1 -");
        CHECK.terms("it has a standard, a quota for each nation, and a limit for its field.");
        new Run(CHECK).athletes(0, 1).does("event r 1 5 24").enters(0, 2, 1).row("inField 0 #", 2, "1 -");
        new Run(CHECK).athletes(0, 1).does("event r 999999 5 24").enters(0, 999999, 1).row("inField 0 #", 2, "1 0");
        new Run(CHECK).athletes(0, 1).does("event j 999999 5 24").enters(0, 999998, 999999).row("inField 0 #", 2, "1 -");
        new Run(CHECK).athletes(0, 1).does("event t 1 5 24").enters(0, 1, 2).row("inField 0 #", 2, "1 0");
    }

    private static void betterOfTwo() {
        CHECK.terms("An athlete enters an event with a best, in thousandths of a second for a race,"
                + " and in centimetres otherwise.");
        CHECK.terms("The better of two is the lesser one in a race, and otherwise the greater one.");
        int[] bests = {300, 1, 301, 299};
        new Run(CHECK).athletes(0, 1, 2, 3).does("event r 500 5 24").enters(0, bests).row("inField 0 #", 4, "1 3 0 2");
        new Run(CHECK).athletes(0, 1, 2, 3).does("event j 1 5 24").enters(0, bests).row("inField 0 #", 4, "2 0 3 1");
        new Run(CHECK).athletes(0, 1, 2, 3).does("event t 1 5 24").enters(0, bests).row("inField 0 #", 4, "2 0 3 1");
    }

    private static void whoIsIn() {
        CHECK.terms("The field are those who entered, have not withdrawn, are not found doped");
        Run x = new Run(CHECK).athletes(0, 1, 2, 3).does("event r 500 5 24").gives("field 0", 0);
        x.does("enter 0 3 400", "enter 0 1 300", "enter 0 2 200").row("inField 0 #", 4, "2 1 3 -");
        x.does("withdraw 0 1 true").row("inField 0 #", 4, "2 3 - -");
        x.does("dope 2 true", "dope 0 true").row("inField 0 #", 4, "3 - - -");
        x.does("withdraw 0 1 false").row("inField 0 #", 4, "1 3 - -");
        x.does("dope 2 false").row("inField 0 #", 4, "2 1 3 -");
    }

    private static void order() {
        CHECK.terms("in order of their bests, of several alike the lower number of the athlete");
        new Run(CHECK).athletes(0, 1, 2, 3, 4, 5).does("event r 500 5 24", "enter 0 5 7", "enter 0 3 7", "enter 0 4 6")
                .does("enter 0 0 7", "enter 0 2 6", "enter 0 1 8").row("inField 0 #", 6, "2 4 0 3 5 1");
        new Run(CHECK).athletes(0, 1, 2, 3, 4, 5).does("event t 5 5 24", "enter 0 5 7", "enter 0 3 7", "enter 0 4 6")
                .does("enter 0 0 7", "enter 0 2 6", "enter 0 1 8").row("inField 0 #", 6, "1 0 3 5 2 4");
    }

    private static void quotas() {
        CHECK.terms("each goes in unless the quota of the nation is used up");
        new Run(CHECK).athletes(3, 3, 3, 4).does("event r 500 1 24").enters(0, 9, 8, 8, 10).row("inField 0 #", 3, "1 3 -");
        new Run(CHECK).athletes(7, 7, 7, 7, 7, 7, 0).does("event j 1 5 24").enters(0, 1, 2, 3, 4, 5, 6, 1)
                .row("inField 0 #", 7, "5 4 3 2 1 6 -");
        Run x = new Run(CHECK).athletes(0, 0, 0, 0).does("event r 500 2 24").enters(0, 1, 2, 3, 501);
        x.row("inField 0 #", 3, "0 1 -");
        x.does("enter 0 3 1").row("inField 0 #", 3, "0 3 -");
        x.does("withdraw 0 0 true").row("inField 0 #", 3, "3 1 -");
        x.does("dope 3 true").row("inField 0 #", 3, "1 2 -");
        x.does("enter 0 1 501").row("inField 0 #", 3, "2 - -");
        x.does("event r 500 2 24", "enter 1 2 1", "enter 1 1 1").row("inField 1 #", 3, "1 2 -");
    }

    private static void limits() {
        CHECK.terms("the limit ends it.");
        new Run(CHECK).athletes(0, 1, 2).does("event r 500 5 2").enters(0, 3, 2, 1).row("inField 0 #", 3, "2 1 -");
        new Run(CHECK).athletes(0, 1).does("event t 5 5 2").enters(0, 7, 8).row("inField 0 #", 3, "1 0 -");
        Run.of(CHECK, 'r', 30).gives("field 0", 24).gives("inField 0 23", 23).none("inField 0 24");
        Run.of(CHECK, 'j', 24).gives("field 0", 24).gives("inField 0 23", 23);
        Run.of(CHECK, 't', 23).gives("field 0", 23).none("inField 0 23");
        Run.of(CHECK, 'r', 30).does("withdraw 0 0 true").gives("field 0", 24).gives("inField 0 23", 24);
    }

    private static void quotasAndLimits() {
        CHECK.terms("each goes in unless the quota of the nation is used up; the limit ends it.");
        Run x = new Run(CHECK).athletes(0, 0, 0, 1, 1, 2).does("event j 100 2 3").enters(0, 200, 199, 198, 197, 196, 195);
        x.row("inField 0 #", 4, "0 1 3 -");
        x.does("withdraw 0 0 true").row("inField 0 #", 4, "1 2 3 -");
        x.does("enter 0 1 99").row("inField 0 #", 4, "2 3 4 -");
        x.does("dope 2 true").row("inField 0 #", 4, "3 4 5 -");
        x.does("dope 4 true").row("inField 0 #", 4, "3 5 - -");
    }

    private static void closedEvents() {
        CHECK.terms("All that follows goes by the field as it is now, of closed events, too.");
        Run x = Run.race(CHECK, 0, 1, 2).times(0, 1, 10, 20, 30).does("close 0 true");
        x.row("rankOf 0 #", 3, "1 2 3").gives("medals 1 2", 1);
        x.does("dope 0 true").row("inField 0 #", 3, "1 2 -").row("rankOf 0 #", 3, "- 1 2").gives("medals 1 1", 1);
        x.gives("record 0", 20).gives("inFinal 0 0", 1).gives("laneOf 0 1 1", 4).gives("points 1", 8.0);
        x.does("dope 0 false").row("inField 0 #", 3, "0 1 2").gives("medals 1 2", 1).gives("record 0", 10);
    }

    private static void asTheyStandThen() {
        CHECK.terms("Each field, rank, medal and record is, at each moment, what the rules make of entries and marks"
                + " as they stand then.");
        Run x = new Run(CHECK).athletes(0, 1).does("event r 500 5 24", "time 0 1 1 10 false 0", "time 0 1 0 20 false 0");
        x.does("putOut 0 1 1", "enter 0 1 501", "enter 0 0 500", "close 0 true");
        x.row("inField 0 #", 2, "0 -").row("rankOf 0 #", 2, "1 -").row("medals # 1", 2, "1 0").gives("record 0", 20);
        x.does("close 0 false", "enter 0 1 499", "protest 0 1 1", "decide 0 true", "close 0 true");
        x.row("inField 0 #", 2, "1 0").row("rankOf 0 #", 2, "2 1").row("medals # 1", 2, "0 1").gives("record 0", 10);
        x.does("close 0 false", "time 0 1 1 30 false 0", "close 0 true");
        x.row("inField 0 #", 2, "1 0").row("rankOf 0 #", 2, "1 2").row("medals # 1", 2, "1 0").gives("record 0", 20);
    }

    private static void asked() {
        CHECK.promise(6, "Returns how many are in the field of an event.");
        CHECK.promise(6, "Returns how many.");
        Run x = Run.race(CHECK, 0, 1, 2).does("event j 1 1 2").gives("field 0", 3).gives("field 1", 0);
        CHECK.promise(6, "Throws IndexOutOfBoundsException if there is no such event");
        x.index("field 2", "field -1", "field " + Integer.MIN_VALUE, "field " + Integer.MAX_VALUE);
        CHECK.promise(7, "Returns one of the field.");
        CHECK.promise(7, "index: the index, from 0");
        CHECK.promise(7, "Returns the athlete.");
        x.gives("inField 0 0", 0).gives("inField 0 2", 2);
        CHECK.promise(7, "Throws IndexOutOfBoundsException if there is no such event");
        x.index("inField 2 0", "inField -1 0", "inField 2 -1");
        CHECK.promise(7, "Throws NoSuchElementException if there are not so many");
        x.none("inField 0 3", "inField 0 -1", "inField 1 0", "inField 0 " + Integer.MIN_VALUE,
                "inField 0 " + Integer.MAX_VALUE);
    }
}
