/** Promises 9 and 10, "Races" as far as heats and lanes go. */
public final class HeatsTest {
    private static final Check CHECK = new Check("HeatsTest");

    public static void main(String[] args) {
        finalAlone();
        marksOfNoRound();
        howManyHeats();
        turns();
        nationsKeptApart();
        fullHeats();
        noneFree();
        lostTurns();
        lanesOfHeats();
        lanesOfFinals();
        heatsAsked();
        lanesAsked();
        CHECK.finish();
    }

    /** Nine of eight nations; those of the nation 0 meet in no heat: 0, 3, 4 and 7 in the heat 0, the others in 1. */
    private static Run nine() {
        return Run.race(CHECK, 0, 1, 2, 3, 4, 5, 6, 7, 0);
    }

    private static void finalAlone() {
        CHECK.terms("With at most 8 in the field, the race has the round 1 alone, the final, for all of them");
        Run.race(CHECK).gives("field 0", 0).none("inFinal 0 0");
        Run.race(CHECK, 5).row("inFinal 0 #", 2, "0 -").row("laneOf 0 1 #", 1, "4").row("laneOf 0 0 #", 1, "-");
        Run.race(CHECK, 0, 0, 0, 0, 0, 1, 1, 1).row("heatOf 0 #", 8, "0 0 0 0 0 0 0 0")
                .row("inFinal 0 #", 9, "0 1 2 3 4 5 6 7 -").row("laneOf 0 0 #", 8, "- - - - - - - -")
                .row("laneOf 0 1 #", 8, "4 5 3 6 7 8 1 2");
        nine().row("inFinal 0 #", 1, "-").row("heatOf 0 #", 9, "0 1 1 0 0 1 1 0 1");
        CHECK.promise(9, "Returns the heat, from 0; 0 if there is the final alone.");
        nine().does("withdraw 0 2 true").row("heatOf 0 #", 9, "0 0 - 0 0 0 0 0 0");
    }

    private static void marksOfNoRound() {
        CHECK.terms("marks of a round 0 count for nothing then.");
        Run x = Run.race(CHECK, 0, 1, 2, 3, 4, 5, 6, 7).times(0, 0, 8, 7, 6, 5, 4, 3, 2, 1).does("putOut 0 0 7");
        x.row("inFinal 0 #", 8, "0 1 2 3 4 5 6 7").row("rankOf 0 #", 8, "- - - - - - - -");
        x.none("record 0", "holder 0").gives("sharers 0", 0).gives("isOut 0 0 7", true);
        x.times(0, 1, 10).gives("rankOf 0 0", 1).gives("record 0", 10);
        x.does("athlete 0", "enter 0 8 109").row("inFinal 0 #", 8, "6 4 5 3 2 1 0 -").gives("record 0", 2);
    }

    private static void howManyHeats() {
        CHECK.terms("With more, there is the round 0 first, of as many heats as are needed for 8 each.");
        for (int count = 9; count <= 24; count++) {
            Run x = Run.of(CHECK, 'r', count);
            int[] inHeat = new int[4];
            for (String heat : x.row("heatOf 0 #", count).split(" ")) {
                inHeat[Math.min(3, Integer.parseInt(heat))]++;
            }
            int heats = 0;
            for (int in : inHeat) {
                heats += in > 0 ? 1 : 0;
                CHECK.due("in a heat of a field of " + count, in <= 8, true);
            }
            CHECK.due("heats of a field of " + count, heats, count <= 16 ? 2 : 3);
        }
        Run.of(CHECK, 'r', 24).row("heatOf 0 #", 24, "0 1 2 2 1 0 0 1 2 2 1 0 0 1 2 2 1 0 0 1 2 2 1 0");
    }

    private static void turns() {
        CHECK.terms("They are seeded in order of the field: the heats take turns, from the first one to the last one,"
                + " then from the last one back to the first one, and so on.");
        Run.race(CHECK, 0, 1, 2, 3, 4, 5, 6, 7, 1, 0, 3, 2, 5, 4, 7, 6)
                .row("heatOf 0 #", 16, "0 1 1 0 0 1 1 0 0 1 1 0 0 1 1 0");
        Run.race(CHECK, 0, 0, 0, 1, 1, 1, 2, 2, 2, 3, 3, 3, 4, 4, 4, 5, 5)
                .row("heatOf 0 #", 17, "0 1 2 2 1 0 0 1 2 2 1 0 0 1 2 2 1");
        new Run(CHECK).athletes(7, 6, 5, 4, 3, 2, 1, 0, 0).does("event r 500 5 24")
                .enters(0, 9, 8, 7, 6, 5, 4, 3, 2, 1).row("heatOf 0 #", 9, "0 0 1 1 0 0 1 1 0");
    }

    private static void nationsKeptApart() {
        CHECK.terms("Each one goes into the heat whose turn it is, or, if one of the same nation is in it, or it has 8,"
                + " into the next heat in this order of turns, up to as many turns on as there are heats twice,"
                + " that has none of that nation and has room");
        nine().row("heatOf 0 #", 9, "0 1 1 0 0 1 1 0 1");
        CHECK.terms("up to as many turns on as there are heats twice");
        // 7 has the turn of heat 1, the nation 0 is in 1 and 2: four turns on is heat 0, and then 0 again
        Run.race(CHECK, 1, 0, 0, 2, 3, 4, 5, 0, 6, 7, 1, 3, 1, 2, 3, 2, 5)
                .row("heatOf 0 #", 17, "0 1 2 2 1 0 0 0 0 1 2 2 1 0 0 1 2");
        // 4 has the turn of heat 1, the nation 0 is in 0 and 1: four turns on is heat 2, and then 2 again
        Run.race(CHECK, 0, 0, 1, 2, 0, 3, 1, 1, 2, 2, 4, 5, 3, 3, 4, 4, 6)
                .row("heatOf 0 #", 17, "0 1 2 2 2 2 1 0 0 1 2 2 1 0 0 1 2");
    }

    private static void fullHeats() {
        CHECK.terms("or it has 8, into the next heat in this order of turns");
        // each second one of the nations 1, 3, 5 and 7 is passed on to heat 0, which is full with 11
        Run.race(CHECK, 0, 1, 1, 2, 3, 3, 4, 5, 5, 6, 7, 7, 0, 2)
                .row("heatOf 0 #", 14, "0 1 0 0 1 0 0 1 0 0 1 0 1 1");
    }

    private static void noneFree() {
        CHECK.terms("if there is none, into the first one of these that has room.");
        // the nation 0 is in both: 2 stays in heat 1 and 3 in heat 0, whose turns it is
        Run.race(CHECK, 0, 0, 0, 0, 1, 2, 3, 4, 5).row("heatOf 0 #", 9, "0 1 1 0 0 1 1 0 0");
        // 12 has the turn of heat 0, which is full, and the nation 1 is in both: heat 1 has the next turn
        Run.race(CHECK, 0, 1, 1, 2, 3, 3, 4, 5, 5, 6, 7, 7, 1)
                .row("heatOf 0 #", 13, "0 1 0 0 1 0 0 1 0 0 1 0 1");
        // 14 has the second turn of heat 0, which is full; the nation 1 is in both
        Run.race(CHECK, 0, 1, 1, 2, 3, 3, 4, 5, 5, 6, 7, 7, 0, 2, 1)
                .row("heatOf 0 #", 15, "0 1 0 0 1 0 0 1 0 0 1 0 1 1 1");
        // heat 0 is full without the nation 7, of which 13 is in heat 1: 14 goes there, too
        Run.race(CHECK, 0, 0, 0, 0, 1, 2, 2, 3, 4, 4, 5, 6, 6, 7, 7, 5)
                .row("heatOf 0 #", 16, "0 1 1 0 0 1 0 0 1 0 0 1 0 1 1 1");
    }

    private static void lostTurns() {
        CHECK.terms("Heats whose turn was passed over have lost it.");
        // heat 1 has its second turn passed over for 2; 3 goes on with heat 0
        Run.race(CHECK, 0, 1, 1, 2, 3, 4, 5, 6, 7).row("heatOf 0 #", 9, "0 1 0 0 1 1 0 0 1");
        CHECK.terms("All that follows goes by the field as it is now, of closed events, too.");
        Run x = nine().row("heatOf 0 #", 9, "0 1 1 0 0 1 1 0 1");
        x.does("close 0 true", "dope 0 true").row("heatOf 0 #", 9, "- 0 0 0 0 0 0 0 0");
        x.does("dope 0 false").row("heatOf 0 #", 9, "0 1 1 0 0 1 1 0 1");
    }

    private static void lanesOfHeats() {
        CHECK.terms("In a heat, those in it stand in the order of the field: the first four get the lanes 4, 5, 3 and 6,"
                + " then 7, 8, 1 and 2.");
        Run.of(CHECK, 'r', 24).each("laneOf 0 0 #", "4 5 3 6 7 8 1 2", 0, 5, 6, 11, 12, 17, 18, 23)
                .each("laneOf 0 0 #", "4 5 3 6 7 8 1 2", 1, 4, 7, 10, 13, 16, 19, 22)
                .each("laneOf 0 0 #", "4 5 3 6 7 8 1 2", 2, 3, 8, 9, 14, 15, 20, 21);
        Run x = nine().each("laneOf 0 0 #", "4 5 3 6", 0, 3, 4, 7).each("laneOf 0 0 #", "4 5 3 6 7", 1, 2, 5, 6, 8);
        x.does("time 0 0 8 1 false 0", "putOut 0 0 1").each("laneOf 0 0 #", "4 5 3 6 7", 1, 2, 5, 6, 8);
        x.does("enter 0 7 99").each("laneOf 0 0 #", "4 5 3 6", 7, 2, 3, 6);
    }

    private static void lanesOfFinals() {
        CHECK.terms("The final's lanes are given likewise, in the order in which those in it came out of the round 0,"
                + " or in the order of the field, if there was none.");
        Run x = nine().times(0, 0, 105, 102, 100, 101, 103, 106, 107, 104, 108);
        x.each("laneOf 0 1 #", "4 5 3 6 7 8 1 2 -", 2, 3, 1, 4, 7, 0, 5, 6, 8);
        x.times(0, 1, 0, 0, 9, 8).does("putOut 0 1 2").each("laneOf 0 1 #", "4 5 3", 2, 3, 1);
        new Run(CHECK).athletes(0, 1, 2, 3, 4).does("event r 500 5 24").enters(0, 5, 3, 4, 1, 2)
                .times(0, 1, 1, 2, 3, 4, 5).each("laneOf 0 1 #", "4 5 3 6 7", 3, 4, 1, 2, 0);
    }

    private static void heatsAsked() {
        CHECK.promise(9, "Returns the heat of an athlete.");
        Run x = nine().does("event t 1 1 2", "enter 1 0 1").gives("heatOf 0 8", 1).gives("heatOf 0 7", 0);
        CHECK.promise(9, "Throws IndexOutOfBoundsException if there is no such event or athlete");
        x.index("heatOf 2 0", "heatOf -1 0", "heatOf 0 9", "heatOf 0 -1", "heatOf 1 9", "heatOf " + Integer.MIN_VALUE
                + " 0", "heatOf 0 " + Integer.MAX_VALUE);
        CHECK.promise(9, "Throws UnsupportedOperationException if the event is of another kind");
        x.kind("heatOf 1 0", "heatOf 1 1").does("event j 1 1 2").kind("heatOf 2 0");
        CHECK.promise(9, "Throws NoSuchElementException if the athlete is not in the field");
        x.does("athlete 0").none("heatOf 0 9").does("withdraw 0 8 true").none("heatOf 0 8");
        x.does("dope 7 true").none("heatOf 0 7").does("enter 0 6 501").none("heatOf 0 6");
        Run.of(CHECK, 'r', 25).none("heatOf 0 24").gives("heatOf 0 23", 0);
    }

    private static void lanesAsked() {
        CHECK.promise(10, "Returns the lane of an athlete in a round.");
        CHECK.promise(10, "Returns the lane, 1 to 8.");
        CHECK.promise(10, "round: the round, 0 or 1");
        Run x = nine().times(0, 0, 1).does("event j 1 1 2", "enter 1 0 1");
        x.gives("laneOf 0 0 4", 3).gives("laneOf 0 1 0", 4);
        CHECK.promise(10, "Throws IndexOutOfBoundsException if there is no such event or athlete");
        x.index("laneOf 2 0 0", "laneOf -1 2 0", "laneOf 0 0 9", "laneOf 0 2 -1", "laneOf 1 0 9");
        CHECK.promise(10, "Throws IllegalArgumentException if there is no such round");
        x.argument("laneOf 0 2 0", "laneOf 0 -1 0", "laneOf 1 2 0", "laneOf 0 " + Integer.MAX_VALUE + " 1");
        CHECK.promise(10, "Throws UnsupportedOperationException if the event is of another kind");
        x.kind("laneOf 1 0 0", "laneOf 1 1 0", "laneOf 1 1 1").does("event t 1 1 2").kind("laneOf 2 1 0");
        CHECK.promise(10, "Throws NoSuchElementException if the athlete is not in this round");
        x.none("laneOf 0 1 1").does("athlete 1").none("laneOf 0 0 9", "laneOf 0 1 9");
        x.does("enter 0 9 109", "withdraw 0 1 true").none("laneOf 0 0 1").does("dope 9 true", "withdraw 0 1 false");
        x.none("laneOf 0 0 9").gives("laneOf 0 0 1", 4).does("withdraw 0 8 true");
        x.none("laneOf 0 0 8", "laneOf 0 1 8", "laneOf 0 0 0").gives("laneOf 0 1 7", 2);
        new Run(CHECK).athletes(0, 1).does("event r 5 1 2", "enter 0 0 5", "enter 0 1 6").none("laneOf 0 1 1", "laneOf 0 0 0")
                .gives("laneOf 0 1 0", 4).does("dope 0 true").none("laneOf 0 1 0");
    }
}
