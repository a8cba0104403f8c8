/** Promises 11 to 14, "Races" as far as marks and starts go: times, false starts, who is out. */
public final class TimesTest {
    private static final Check CHECK = new Check("TimesTest");
    private static final int LEAST = Integer.MIN_VALUE;
    private static final int MOST = Integer.MAX_VALUE;

    public static void main(String[] args) {
        measured();
        byHand();
        numbersOfTimes();
        inPlace();
        notInTheRound();
        timesRefused();
        starts();
        numbersOfStarts();
        startsRefused();
        puttingOut();
        puttingOutRefused();
        isOut();
        isOutRefused();
        noPlace();
        CHECK.finish();
    }

    private static void measured() {
        CHECK.terms("A measured time counts as it is, and is shown in hundredths, rounded up.");
        Run x = Run.race(CHECK, 0);
        x.gives("time 0 1 0 9801 false 5", 981).gives("resultOf 0 0", 9801);
        x.gives("time 0 1 0 9809 false 5", 981).gives("resultOf 0 0", 9809);
        x.gives("time 0 1 0 9810 false 5", 981).gives("time 0 1 0 9811 false 5", 982);
        x.gives("time 0 1 0 9 false 0", 1).gives("time 0 1 0 10 false 0", 1).gives("time 0 1 0 11 false 0", 2);
        CHECK.promise(11, "Returns the time in hundredths, as it is shown.");
        x.gives("time 0 0 0 12345 false 0", 1235).gives("time 0 1 0 999999 false 0", 100000);
        x.gives("resultOf 0 0", 999999).gives("time 0 1 0 1 false 0", 1).gives("resultOf 0 0", 1);
    }

    private static void byHand() {
        CHECK.terms("One by hand is rounded up to tenths, has 24 hundredths more, and counts so.");
        CHECK.promise(11, "byHand: whether it is by hand");
        Run x = Run.race(CHECK, 0, 1);
        x.gives("time 0 1 0 9700 true 0", 994).gives("resultOf 0 0", 9940);
        x.gives("time 0 1 0 9701 true 0", 1004).gives("resultOf 0 0", 10040);
        x.gives("time 0 1 0 9799 true 0", 1004).gives("resultOf 0 0", 10040);
        x.gives("time 0 1 0 9800 true 0", 1004).gives("time 0 1 0 9801 true 0", 1014);
        x.gives("time 0 1 0 1 true 0", 34).gives("resultOf 0 0", 340);
        x.gives("time 0 1 0 999900 true 0", 100014).gives("time 0 1 0 999901 true 0", 100024);
        x.gives("time 0 1 0 999999 true 0", 100024).gives("resultOf 0 0", 1000240);
        x.does("time 0 1 0 9600 true 0", "time 0 1 1 9839 false 0").row("rankOf 0 #", 2, "2 1");
        x.does("time 0 1 1 9840 false 0").row("rankOf 0 #", 2, "1 1").gives("record 0", 9840);
    }

    private static void numbersOfTimes() {
        CHECK.terms("A mark of a race is a time in thousandths, measured or by hand, and a wind.");
        CHECK.promise(11, "round: the round, 0 or 1");
        Run x = Run.race(CHECK, 0).does("time 0 0 0 50 false 0", "time 0 1 0 50 false 0");
        x.argument("time 0 2 0 5 false 0", "time 0 -1 0 5 false 0", "time 0 " + LEAST + " 0 5 false 0");
        CHECK.promise(11, "thousandths: the time, 1 to 999999");
        x.does("time 0 1 0 1 false 0", "time 0 1 0 999999 true 0", "time 0 1 0 7 false 0");
        x.argument("time 0 1 0 0 false 0", "time 0 1 0 -1 true 0", "time 0 1 0 1000000 false 0",
                "time 0 1 0 " + LEAST + " true 0", "time 0 1 0 " + MOST + " true 0");
        CHECK.promise(11, "wind: the wind, -99 to 99");
        x.does("time 0 1 0 7 false -99", "time 0 1 0 7 false 99");
        x.argument("time 0 1 0 5 false -100", "time 0 1 0 5 false 100", "time 0 1 0 5 false " + LEAST,
                "time 0 1 0 5 false " + MOST);
        CHECK.promise(11, "Throws IllegalArgumentException if a number is out of range");
        x.gives("resultOf 0 0", 7).none("record 0");
    }

    private static void inPlace() {
        CHECK.promise(11, "Marks a time, in place of an earlier one, also for one who is not in the round now.");
        Run x = Run.race(CHECK, 0).does("time 0 1 0 900 false 21").gives("resultOf 0 0", 900).none("record 0");
        x.does("time 0 1 0 1200 false 20").gives("resultOf 0 0", 1200).gives("record 0", 1200);
        x.does("time 0 1 0 1000 true 22").gives("resultOf 0 0", 1240).none("record 0");
        x.does("time 0 0 0 5 false 0").gives("resultOf 0 0", 1240).none("record 0");
    }

    private static void notInTheRound() {
        CHECK.promise(11, "also for one who is not in the round now.");
        Run x = Run.race(CHECK, 0, 1, 2, 3, 4, 5, 6, 7, 0).does("athlete 1");
        x.does("time 0 1 8 50 false 0", "time 0 0 9 60 false 0", "time 0 1 9 70 false 0").none("rankOf 0 8", "rankOf 0 9");
        x.does("time 0 0 8 500 false 0").gives("resultOf 0 8", 50).gives("inFinal 0 0", 8);
        x.does("enter 0 9 109").gives("resultOf 0 9", 70).gives("inFinal 0 0", 9);
        x.does("putOut 0 0 0").gives("time 0 0 0 40 false 0", 4).none("laneOf 0 1 0");
    }

    private static void timesRefused() {
        CHECK.promise(11, "Throws IndexOutOfBoundsException if there is no such event or athlete");
        Run x = Run.race(CHECK, 0, 1).does("event t 1 1 2", "event j 1 1 2");
        x.index("time 3 1 0 5 false 0", "time -1 1 0 5 false 0", "time 0 1 2 5 false 0", "time 0 1 -1 5 false 0",
                "time 3 2 0 0 false 100", "time 0 2 2 0 false 100");
        CHECK.promise(11, "Throws UnsupportedOperationException if the event is of another kind");
        x.kind("time 1 1 0 5 false 0", "time 2 0 0 5 true 0").argument("time 1 1 0 0 false 0");
        CHECK.promise(11, "Throws IllegalStateException if the event is closed");
        x.does("close 0 true", "close 1 true").state("time 0 1 0 5 false 0", "time 0 0 1 5 true 99");
        x.kind("time 1 1 0 5 false 0").argument("time 0 1 0 5 false 100").row("rankOf 0 #", 2, "- -");
        x.does("close 0 false", "time 0 1 0 5 false 0").row("rankOf 0 #", 2, "1 -");
    }

    private static void starts() {
        CHECK.terms("A start with a reaction of less than 100 thousandths is a false start,"
                + " and the athlete is out of that round.");
        CHECK.promise(12, "Tells the reaction of an athlete at a start.");
        CHECK.promise(12, "Returns whether it is a false start.");
        Run x = Run.race(CHECK, 0, 1).times(0, 1, 20, 10).row("rankOf 0 #", 2, "2 1");
        x.gives("react 0 1 1 100", false).gives("isOut 0 1 1", false).row("rankOf 0 #", 2, "2 1");
        x.gives("react 0 1 1 99", true).gives("isOut 0 1 1", true).row("rankOf 0 #", 2, "1 -");
        x.gives("isOut 0 0 1", false).gives("isOut 0 1 0", false);
        x.gives("react 0 0 1 0", true).gives("isOut 0 0 1", true);
        x.does("athlete 3").gives("react 0 1 2 99", true).gives("isOut 0 1 2", true);
    }

    private static void numbersOfStarts() {
        CHECK.promise(12, "round: the round, 0 or 1");
        Run x = Run.race(CHECK, 0).does("react 0 0 0 500", "react 0 1 0 500");
        x.argument("react 0 2 0 50", "react 0 -1 0 50", "react 0 " + MOST + " 0 50");
        CHECK.promise(12, "thousandths: the reaction, 0 to 999");
        x.gives("react 0 1 0 999", false);
        CHECK.promise(12, "Throws IllegalArgumentException if a number is out of range");
        x.argument("react 0 1 0 -1", "react 0 1 0 1000", "react 0 1 0 " + LEAST, "react 0 1 0 " + MOST);
        x.gives("isOut 0 0 0", false).gives("isOut 0 1 0", false).gives("react 0 1 0 0", true);
    }

    private static void startsRefused() {
        CHECK.promise(12, "Throws IndexOutOfBoundsException if there is no such event or athlete");
        Run x = Run.race(CHECK, 0, 1).does("event j 1 1 2", "event t 1 1 2");
        x.index("react 3 1 0 50", "react -1 1 0 50", "react 0 1 2 50", "react 0 1 -1 50", "react 3 2 0 1000",
                "react 0 2 2 1000");
        CHECK.promise(12, "Throws UnsupportedOperationException if the event is of another kind");
        x.kind("react 1 1 0 50", "react 2 0 0 500").argument("react 1 1 0 1000", "react 1 2 0 50");
        CHECK.promise(12, "Throws IllegalStateException if the event is closed, or the athlete is out of this round");
        x.does("react 0 1 0 99").state("react 0 1 0 500", "react 0 1 0 50").gives("react 0 0 0 500", false);
        x.does("putOut 0 0 1").state("react 0 0 1 500").argument("react 0 0 1 1000").gives("react 0 1 1 500", false);
        x.does("close 0 true", "close 1 true").state("react 0 1 1 500", "react 0 1 1 50").gives("isOut 0 1 1", false);
        x.kind("react 1 1 0 50").argument("react 0 1 1 -1");
        x.does("close 0 false").gives("react 0 1 1 50", true);
    }

    private static void puttingOut() {
        CHECK.promise(13, "Puts an athlete out of a round, for another cause.");
        CHECK.promise(13, "Returns whether the athlete was not out.");
        CHECK.promise(13, "round: the round, 0 or 1");
        Run x = Run.race(CHECK, 0, 1).times(0, 1, 10, 20);
        x.gives("putOut 0 1 0", true).gives("putOut 0 1 0", false).gives("isOut 0 1 0", true);
        x.gives("isOut 0 0 0", false).gives("putOut 0 0 0", true).gives("isOut 0 0 0", true);
        x.row("rankOf 0 #", 2, "- 1").does("react 0 1 1 0").gives("putOut 0 1 1", false);
        x.does("athlete 2").gives("putOut 0 1 2", true);
    }

    private static void puttingOutRefused() {
        CHECK.promise(13, "Throws IndexOutOfBoundsException if there is no such event or athlete");
        Run x = Run.race(CHECK, 0, 1).does("event t 1 1 2", "event j 1 1 2");
        x.index("putOut 3 1 0", "putOut -1 1 0", "putOut 0 1 2", "putOut 0 1 -1", "putOut 3 2 0", "putOut 0 2 2");
        CHECK.promise(13, "Throws IllegalArgumentException if there is no such round");
        x.argument("putOut 0 2 0", "putOut 0 -1 0", "putOut 1 2 0", "putOut 0 " + LEAST + " 0");
        CHECK.promise(13, "Throws UnsupportedOperationException if the event is of another kind");
        x.kind("putOut 1 1 0", "putOut 2 0 0");
        CHECK.promise(13, "Throws IllegalStateException if the event is closed");
        x.does("close 0 true", "close 1 true").state("putOut 0 1 0", "putOut 0 0 1").kind("putOut 1 1 0");
        x.argument("putOut 0 2 0").gives("isOut 0 1 0", false).does("close 0 false").gives("putOut 0 1 0", true);
        x.does("close 0 true").state("putOut 0 1 0").gives("isOut 0 1 0", true);
    }

    private static void isOut() {
        CHECK.promise(14, "Returns whether an athlete is out of a round.");
        CHECK.promise(14, "Returns whether it is so.");
        CHECK.promise(14, "round: the round, 0 or 1");
        Run x = Run.race(CHECK, 0, 1).does("athlete 2", "event r 1 1 2").gives("isOut 0 0 0", false).gives("isOut 0 1 2", false);
        x.does("putOut 0 0 2").gives("isOut 0 0 2", true).gives("isOut 0 1 2", false).gives("isOut 1 0 2", false);
        x.does("dope 0 true", "withdraw 0 1 true").gives("isOut 0 1 0", false).gives("isOut 0 1 1", false);
    }

    private static void isOutRefused() {
        CHECK.promise(14, "Throws IndexOutOfBoundsException if there is no such event or athlete");
        Run x = Run.race(CHECK, 0, 1).does("event t 1 1 2", "event j 1 1 2");
        x.index("isOut 3 1 0", "isOut -1 1 0", "isOut 0 1 2", "isOut 0 1 -1", "isOut 3 2 0", "isOut 0 2 2");
        CHECK.promise(14, "Throws IllegalArgumentException if there is no such round");
        x.argument("isOut 0 2 0", "isOut 0 -1 0", "isOut 1 2 0", "isOut 0 " + MOST + " 0");
        CHECK.promise(14, "Throws UnsupportedOperationException if the event is of another kind");
        x.kind("isOut 1 1 0", "isOut 2 0 0");
    }

    private static void noPlace() {
        CHECK.terms("Who has no mark in a round, or is out of it, has no place in it.");
        Run x = Run.race(CHECK, 0, 1, 2).times(0, 1, 30, 0, 10).row("rankOf 0 #", 3, "2 - 1");
        x.does("putOut 0 1 2").row("rankOf 0 #", 3, "1 - -").row("resultOf 0 #", 3, "30 - -");
        x.times(0, 1, 0, 0, 5).row("rankOf 0 #", 3, "1 - -");
        x.does("putOut 0 0 0").row("rankOf 0 #", 3, "1 - -");
        Run heats = Run.race(CHECK, 0, 1, 2, 3, 4, 5, 6, 7, 0).row("inFinal 0 #", 1, "-");
        heats.times(0, 0, 0, 7, 6, 0, 0, 5, 4).row("inFinal 0 #", 5, "6 5 2 1 -");
        heats.does("react 0 0 6 99").row("inFinal 0 #", 5, "5 2 1 - -");
        heats.does("putOut 0 1 5").row("inFinal 0 #", 5, "5 2 1 - -");
    }
}
