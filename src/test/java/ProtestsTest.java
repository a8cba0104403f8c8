/** Promises 21 to 24, "Protests" and "Doping": protests, decisions, doping and appeals, closing. */
public final class ProtestsTest {
    private static final Check CHECK = new Check("ProtestsTest");
    private static final int LEAST = Integer.MIN_VALUE;
    private static final int MOST = Integer.MAX_VALUE;

    public static void main(String[] args) {
        thirtyMinutes();
        notBegunAnew();
        onceForEachRound();
        countsAsOut();
        upheld();
        kept();
        protestsAsked();
        protestsRefused();
        decisionsRefused();
        closedEvents();
        doping();
        appeals();
        dopingAsked();
        closing();
        closingRefused();
        CHECK.finish();
    }

    private static void thirtyMinutes() {
        CHECK.terms("An athlete who was put out of a race's round for a false start, or any other cause,"
                + " may protest within 30 minutes of that, the thirtieth included");
        Run x = Run.race(CHECK, 0, 1, 2, 3, 4, 5).does("pass 5", "putOut 0 1 0", "react 0 1 1 0", "putOut 0 1 2");
        x.gives("protest 0 1 2", 0);
        x.does("pass 1").gives("putOut 0 1 3", true).does("react 0 1 4 99");
        x.does("pass 29").gives("protest 0 1 0", 1).gives("protest 0 1 3", 2);
        CHECK.promise(21, "it is too late");
        x.does("pass 1").state("protest 0 1 1").gives("protest 0 1 4", 3);
        x.does("pass 9999").state("protest 0 1 1").does("putOut 0 1 5").gives("protest 0 1 5", 4);
        Run.race(CHECK, 0).does("putOut 0 1 0", "pass 30").gives("protest 0 1 0", 0);
        Run.race(CHECK, 0).does("putOut 0 1 0", "pass 31").state("protest 0 1 0").gives("isOut 0 1 0", true);
        Run.race(CHECK, 0).does("react 0 0 0 99", "pass 30").gives("protest 0 0 0", 0);
        Run.race(CHECK, 0).does("react 0 0 0 99", "pass 31").state("protest 0 0 0");
    }

    private static void notBegunAnew() {
        CHECK.terms("being put out once more does not begin them anew");
        Run x = Run.race(CHECK, 0, 1).does("putOut 0 1 0", "react 0 1 1 0", "pass 20");
        x.gives("putOut 0 1 0", false).gives("putOut 0 1 1", false).does("pass 10").gives("protest 0 1 1", 0);
        x.does("pass 1", "putOut 0 1 0").state("protest 0 1 0");
        x.does("putOut 0 0 0", "pass 30").gives("protest 0 0 0", 1).state("protest 0 1 0");
    }

    private static void onceForEachRound() {
        CHECK.terms("with a deposit of 100, once for each round");
        Run x = Run.race(CHECK, 0, 1).does("putOut 0 1 0").gives("protest 0 1 0", 0);
        CHECK.promise(21, "or the athlete protested for it");
        x.state("protest 0 1 0").does("decide 0 false").state("protest 0 1 0");
        x.does("putOut 0 0 0").gives("protest 0 0 0", 1).does("decide 1 true").state("protest 0 0 0");
        x.gives("react 0 0 0 99", true).gives("isOut 0 0 0", true).state("protest 0 0 0").gives("putOut 0 0 0", false);
        x.does("putOut 0 1 1").gives("protest 0 1 1", 2);
        x.does("event r 500 5 24", "putOut 1 1 0").gives("protest 1 1 0", 3);
    }

    private static void countsAsOut() {
        CHECK.terms("while it is not decided, the athlete counts as out.");
        Run x = Run.race(CHECK, 0, 1).times(0, 1, 10, 20).does("putOut 0 1 0", "protest 0 1 0");
        x.gives("isOut 0 1 0", true).row("rankOf 0 #", 2, "- 1").gives("record 0", 20);
        x.state("react 0 1 0 500").gives("putOut 0 1 0", false);
        x.does("decide 0 true").gives("isOut 0 1 0", false).row("rankOf 0 #", 2, "1 2").gives("react 0 1 0 500", false);
    }

    private static void upheld() {
        CHECK.terms("If it is upheld, the deposit comes back, and the mark counts, if there is one");
        Run x = Run.race(CHECK, 0, 1).times(0, 1, 10, 20).does("react 0 1 0 99", "protest 0 1 0").row("rankOf 0 #", 2, "- 1");
        x.gives("decide 0 true", 0).row("rankOf 0 #", 2, "1 2").gives("isOut 0 1 0", false);
        Run none = Run.race(CHECK, 0).does("putOut 0 1 0", "protest 0 1 0").gives("decide 0 true", 0).none("rankOf 0 0");
        none.times(0, 1, 5).gives("rankOf 0 0", 1);
        Run later = Run.race(CHECK, 0).does("putOut 0 1 0", "protest 0 1 0").times(0, 1, 7).none("rankOf 0 0");
        later.does("decide 0 true").gives("resultOf 0 0", 7);
        Run heats = Run.race(CHECK, 0, 1, 2, 3, 4, 5, 6, 7, 0).times(0, 0, 9, 8, 7).does("putOut 0 0 2");
        heats.does("protest 0 0 2").row("inFinal 0 #", 3, "1 0 -").does("decide 0 true").row("inFinal 0 #", 4, "2 0 1 -");
        heats.does("putOut 0 1 2").gives("putOut 0 0 2", true).row("inFinal 0 #", 3, "1 0 -");
    }

    private static void kept() {
        CHECK.terms("otherwise the house keeps the deposit.");
        CHECK.promise(22, "Returns what the house has kept so far.");
        Run x = Run.race(CHECK, 0, 1, 2, 3).times(0, 1, 10, 20, 30, 40);
        for (int i = 0; i < 4; i++) {
            x.does("putOut 0 1 " + i, "protest 0 1 " + i);
        }
        x.gives("decide 2 false", 100).row("rankOf 0 #", 4, "- - - -").gives("isOut 0 1 2", true);
        x.gives("decide 0 true", 100).row("rankOf 0 #", 4, "1 - - -");
        x.gives("decide 3 false", 200).gives("decide 1 true", 200).row("rankOf 0 #", 4, "1 2 - -");
    }

    private static void protestsAsked() {
        CHECK.promise(21, "Protests.");
        CHECK.promise(21, "Returns the number of the protest, from 0.");
        CHECK.promise(21, "round: the round, 0 or 1");
        Run x = Run.race(CHECK, 0, 1, 2).does("event r 500 5 24", "putOut 0 1 1", "putOut 0 0 1", "putOut 1 0 2");
        x.gives("protest 1 0 2", 0).gives("protest 0 0 1", 1).gives("protest 0 1 1", 2);
        CHECK.promise(22, "Decides a protest.");
        x.does("decide 1 true").gives("isOut 0 0 1", false).gives("isOut 0 1 1", true).gives("isOut 1 0 2", true);
        x.does("decide 0 true").gives("isOut 1 0 2", false).gives("isOut 0 1 1", true);
    }

    private static void protestsRefused() {
        CHECK.promise(21, "Throws IndexOutOfBoundsException if there is no such event or athlete");
        Run x = Run.race(CHECK, 0, 1).does("event j 1 1 2", "event t 1 1 2", "putOut 0 1 0");
        x.index("protest 3 1 0", "protest -1 1 0", "protest 0 1 2", "protest 0 1 -1", "protest 3 2 0", "protest 0 2 2");
        CHECK.promise(21, "Throws IllegalArgumentException if there is no such round");
        x.argument("protest 0 2 0", "protest 0 -1 0", "protest 1 2 0", "protest 0 " + LEAST + " 0", "protest 0 " + MOST + " 0");
        CHECK.promise(21, "Throws UnsupportedOperationException if the event is of another kind");
        x.kind("protest 1 1 0", "protest 2 0 0");
        CHECK.promise(21, "Throws IllegalStateException if the athlete is not out of this round");
        x.state("protest 0 0 0", "protest 0 1 1").gives("protest 0 1 0", 0);
    }

    private static void decisionsRefused() {
        CHECK.promise(22, "Throws IndexOutOfBoundsException if there is no such protest");
        Run x = Run.race(CHECK, 0, 1).does("putOut 0 1 0", "putOut 0 1 1").index("decide 0 true");
        x.does("protest 0 1 0").index("decide 1 true", "decide -1 true", "decide " + LEAST + " false");
        x.index("decide " + MOST + " false", "decide 300 true");
        CHECK.promise(22, "Throws IllegalStateException if it was decided");
        x.gives("decide 0 false", 100).state("decide 0 true", "decide 0 false").gives("isOut 0 1 0", true);
        x.does("protest 0 1 1").gives("decide 1 true", 100).state("decide 1 false", "decide 1 true");
        x.gives("isOut 0 1 1", false).does("putOut 0 0 0", "protest 0 0 0").gives("decide 2 false", 200);
    }

    private static void closedEvents() {
        CHECK.terms("All that follows goes by the field as it is now, of closed events, too.");
        Run x = Run.race(CHECK, 0, 1).times(0, 1, 10, 20).does("putOut 0 1 0", "close 0 true").gives("medals 1 1", 1);
        x.gives("protest 0 1 0", 0).gives("decide 0 true", 0).gives("medals 0 1", 1).gives("medals 1 2", 1);
    }

    private static void doping() {
        CHECK.terms("Who is found doped is in no field, and has no result, in all events, until an appeal is upheld.");
        Run x = Run.race(CHECK, 0, 1).times(0, 1, 10, 20).does("event t 1 5 24", "enter 1 0 5").puts(1, 0, 30);
        x.does("event j 1 5 24", "enter 2 0 5", "enter 2 1 5", "bar 2 7").jumps(2, 0, "o").jumps(2, 1, "xo");
        x.does("dope 0 true").row("field #", 3, "1 0 1").none("resultOf 0 0", "resultOf 1 0", "resultOf 2 0");
        x.none("rankOf 0 0", "rankOf 1 0", "rankOf 2 0", "heatOf 0 0", "laneOf 0 1 0", "record 1");
        x.row("holder #", 3, "1 - 1").row("rankOf # 1", 3, "1 - 1");
        x.does("time 0 1 0 5 false 0", "put 1 0 99").none("resultOf 0 0", "resultOf 1 0");
        x.does("dope 0 false").row("field #", 3, "2 1 2").row("rankOf # 0", 3, "1 1 1").row("resultOf # 0", 3, "5 99 7");
        x.row("holder #", 3, "0 0 0").row("rankOf # 1", 3, "2 - 2");
    }

    private static void appeals() {
        CHECK.promise(23, "Finds an athlete doped, or upholds an appeal.");
        CHECK.promise(23, "Returns whether it was so.");
        Run x = Run.race(CHECK, 0, 1).gives("dope 0 false", false).gives("dope 0 true", false).gives("dope 0 true", true);
        x.gives("field 0", 1).gives("dope 0 false", true).gives("dope 0 false", false).gives("field 0", 2);
        x.does("close 0 true", "dope 1 true").gives("field 0", 1).gives("dope 0 false", false).gives("dope 1 false", true);
    }

    private static void dopingAsked() {
        CHECK.promise(23, "Throws IndexOutOfBoundsException if there is no such athlete");
        new Run(CHECK).index("dope 0 false").athletes(0, 1).index("dope 2 true", "dope -1 true", "dope 30 true",
                "dope " + LEAST + " true", "dope " + MOST + " false").gives("dope 1 true", false);
    }

    private static void closing() {
        CHECK.promise(24, "Closes an event, or opens it again.");
        CHECK.promise(24, "Returns whether it was closed.");
        Run x = Run.race(CHECK, 0, 1).times(0, 1, 10, 20).does("event r 500 5 24");
        x.gives("close 0 false", false).gives("close 0 true", false).gives("close 0 true", true);
        x.gives("medals 0 1", 1).gives("points 1", 7.0).state("enter 0 0 5").does("enter 1 0 5");
        x.gives("close 0 false", true).gives("close 0 false", false);
        x.gives("medals 0 1", 0).gives("points 1", 0.0).does("enter 0 0 5");
    }

    private static void closingRefused() {
        CHECK.promise(24, "Throws IndexOutOfBoundsException if there is no such event");
        new Run(CHECK).index("close 0 true").does("event j 1 1 2").index("close 1 true", "close -1 true", "close 5 true",
                "close " + LEAST + " false", "close " + MOST + " true").gives("close 0 true", false);
    }
}
