import java.util.ArrayList;
import java.util.Comparator;
import java.util.List;

/** Promise 15, "Going on": who goes on to the final, lots, and the order out of the round 0. */
public final class FinalsTest {
    private static final Check CHECK = new Check("FinalsTest");

    public static void main(String[] args) {
        firstTwo();
        upToEight();
        lesserTime();
        lots();
        lotsOfAll();
        lotsThatDecide();
        order();
        madeAnew();
        notInTheFinal();
        asked();
        CHECK.finish();
    }

    /** Nine in two heats: 0, 3, 4 and 7 in the heat 0, and 1, 2, 5, 6 and 8 in the heat 1. */
    private static Run nine(int... times) {
        return Run.race(CHECK, 0, 1, 2, 3, 4, 5, 6, 7, 0).times(0, 0, times);
    }

    /** Seventeen in three heats: 0, 5, 6, 11, 12 and 1, 4, 7, 10, 13, 16 and 2, 3, 8, 9, 14, 15. */
    private static Run seventeen() {
        Run x = Run.race(CHECK, 0, 0, 0, 1, 1, 1, 2, 2, 2, 3, 3, 3, 4, 4, 4, 5, 5);
        for (int i = 0; i < 17; i++) {
            x.does("time 0 0 " + i + " " + (100 + i) + " false 0");
        }
        return x;
    }

    private static void firstTwo() {
        CHECK.terms("Of the round 0, the first 2 of each heat go on, and the best others, up to 8 in all.");
        nine(900, 1, 2, 901, 950, 3, 4, 951, 5).row("inFinal 0 #", 9, "1 0 2 3 5 6 8 4 -");
        nine(900, 1, 2, 0, 0, 3, 4, 0, 5).row("inFinal 0 #", 9, "1 0 2 5 6 8 - - -");
        nine(0, 1, 2, 0, 0, 3, 4, 0, 5).row("inFinal 0 #", 9, "1 2 5 6 8 - - - -");
        nine(900, 1, 2, 901, 950, 3, 4, 951, 5).gives("inFinal 0 1", 0).gives("inFinal 0 7", 4).none("inFinal 0 8");
        nine(7).row("inFinal 0 #", 2, "0 -");
        nine().row("inFinal 0 #", 1, "-");
    }

    private static void upToEight() {
        CHECK.terms("and the best others, up to 8 in all.");
        Run x = seventeen().row("inFinal 0 #", 9, "0 1 2 3 4 5 6 7 -");
        x.does("time 0 0 16 1 false 0").row("inFinal 0 #", 9, "16 0 2 1 3 5 4 6 -");
        x.does("time 0 0 11 2 false 0", "time 0 0 12 3 false 0").row("inFinal 0 #", 9, "16 11 2 12 1 3 0 4 -");
        nine(1, 2, 3, 4, 5, 6, 7, 8, 9).row("inFinal 0 #", 9, "0 1 2 3 4 5 6 7 -").none("laneOf 0 1 8");
        nine(1, 2, 3, 4, 5, 6, 7, 8).row("inFinal 0 #", 9, "0 1 2 3 4 5 6 7 -");
    }

    private static void lesserTime() {
        CHECK.terms("In a heat, the lesser time is ahead.");
        CHECK.terms("Others are compared by their times.");
        nine(104, 9, 8, 103, 102, 7, 6, 101, 5).row("inFinal 0 #", 9, "8 7 6 4 5 2 1 3 -");
        CHECK.terms("One by hand is rounded up to tenths, has 24 hundredths more, and counts so.");
        nine(0, 439, 441, 0, 0, 438, 437).does("time 0 0 8 101 true 0").row("inFinal 0 #", 5, "6 5 1 8 2");
    }

    private static void lots() {
        CHECK.terms("Those that are alike in time are drawn for: the lower lot is ahead, which is 31 times the number"
                + " of the athlete, plus 17 times that of the event, plus 7, modulo 41, and then the lower number.");
        // lots of the event 0: 7 38 28 18 8 39 29 19 9
        nine(9, 9, 9, 9, 9, 9, 9, 9, 9).row("inFinal 0 #", 9, "0 8 4 2 3 7 6 1 -");
        Run x = nine().does("event r 500 5 24");
        for (int i = 0; i < 9; i++) {
            x.does("enter 1 " + i + " " + (100 + i), "time 1 0 " + i + " 9 false 0");
        }
        // lots of the event 1: 24 14 4 35 25 15 5 36 26
        x.row("inFinal 1 #", 9, "2 0 6 4 1 5 8 3 -");
    }

    /** Nine with the highest numbers, and nine with the lowest, in each of the five events. */
    private static void lotsOfAll() {
        CHECK.terms("modulo 41");
        for (int first : new int[] {0, 10, 21}) {
            Run x = new Run(CHECK);
            for (int i = 0; i < 30; i++) {
                x.does("athlete " + Math.floorMod(i - first, 8));
            }
            for (int event = 0; event < 5; event++) {
                x.does("event r 500 5 24");
                for (int i = 0; i < 9; i++) {
                    x.does("enter " + event + " " + (first + i) + " " + (100 + i));
                    x.does("time " + event + " 0 " + (first + i) + " 77 false 0");
                }
                x.row("inFinal " + event + " #", 8, byLots(first, event));
            }
        }
    }

    private static String byLots(int first, int event) {
        Comparator<Integer> byLot = Comparator.comparing(athlete -> (31 * athlete + 17 * event + 7) % 41);
        List<List<Integer>> places = List.of(new ArrayList<>(), new ArrayList<>(), new ArrayList<>());
        for (int[] heat : new int[][] {{0, 3, 4, 7}, {1, 2, 5, 6, 8}}) {
            List<Integer> drawn = new ArrayList<>();
            for (int i : heat) {
                drawn.add(first + i);
            }
            drawn.sort(byLot);
            for (int i = 0; i < drawn.size(); i++) {
                places.get(Math.min(2, i)).add(drawn.get(i));
            }
        }
        StringBuilder text = new StringBuilder();
        for (List<Integer> place : places) {
            place.sort(byLot);
            place.forEach(athlete -> text.append(athlete).append(' '));
        }
        return text.substring(0, text.length() - String.valueOf(places.get(2).get(4)).length() - 2);
    }

    private static void lotsThatDecide() {
        CHECK.terms("Those that are alike in time are drawn for");
        // who is second of the heat 1: 8 with the lot 9, not 2 with 28
        nine(100, 5, 6, 101, 102, 7, 8, 103, 6).row("inFinal 0 #", 9, "1 0 8 3 2 5 6 4 -");
        // who is the eighth: 4 with the lot 8, not 7 with 19; then 8 with 9, not 6 with 29
        nine(100, 5, 6, 101, 102, 7, 8, 102, 9).row("inFinal 0 #", 9, "1 0 2 3 5 6 8 4 -");
        nine(5, 50, 60, 6, 7, 70, 80, 8, 80).row("inFinal 0 #", 9, "0 1 3 2 4 7 5 8 -");
        CHECK.terms("In a race, alike times to the thousandth are alike ranks.");
        nine(9, 9, 9, 9, 9, 9, 9, 9, 9).times(0, 1, 7, 7, 7, 6).row("rankOf 0 #", 5, "2 2 2 1 -");
    }

    private static void order() {
        CHECK.terms("They came out of the round 0 so: first all firsts by their times, then all seconds by their times,"
                + " then the others, lots where times are alike.");
        nine(105, 102, 100, 101, 103, 106, 107, 104, 108).row("inFinal 0 #", 9, "2 3 1 4 7 0 5 6 -");
        // firsts alike: 4 with the lot 8 ahead of 2 with 28; seconds alike: 3 (18), 6 (29); others: 8, 7, 1, 5
        nine(0, 30, 10, 20, 10, 30, 20, 30, 30).row("inFinal 0 #", 9, "4 2 3 6 8 7 1 5 -");
    }

    private static void madeAnew() {
        CHECK.terms("The field of the final is made by that anew whenever a mark or the field changes");
        Run x = nine(105, 102, 100, 101, 103, 106, 107, 104, 108).row("inFinal 0 #", 9, "2 3 1 4 7 0 5 6 -");
        x.does("time 0 0 8 99 false 0").row("inFinal 0 #", 9, "8 3 2 4 1 7 0 5 -");
        x.does("putOut 0 0 3").row("inFinal 0 #", 9, "8 4 2 7 1 0 5 6 -");
        x.does("protest 0 0 3", "decide 0 true").row("inFinal 0 #", 9, "8 3 2 4 1 7 0 5 -");
        x.does("close 0 true", "dope 1 true").row("inFinal 0 #", 9, "0 2 3 4 5 6 7 8 -");
        x.does("dope 1 false").row("inFinal 0 #", 9, "8 3 2 4 1 7 0 5 -");
        x.does("close 0 false", "withdraw 0 8 true").row("inFinal 0 #", 9, "0 1 2 3 4 5 6 7 -");
        x.does("withdraw 0 8 false", "enter 0 2 99");
        // 2 leads the field now: the heats are 2, 3, 4, 7, 8 and 0, 1, 5, 6
        x.row("heatOf 0 #", 9, "1 1 0 0 0 1 1 0 0").row("inFinal 0 #", 9, "8 1 2 0 3 4 7 5 -");
    }

    private static void notInTheFinal() {
        CHECK.terms("marks in the final of those who are not in it count for nothing.");
        Run x = nine(105, 102, 100, 101, 103, 106, 107, 104, 108).times(0, 1, 300, 200, 200, 250, 0, 0, 0, 0, 1);
        x.row("rankOf 0 #", 9, "4 1 1 3 - - - - -").none("resultOf 0 8").gives("record 0", 100).gives("sharers 0", 1);
        x.does("time 0 0 8 99 false 0").row("rankOf 0 #", 9, "5 2 2 4 - - - - 1").gives("resultOf 0 8", 1);
        x.gives("record 0", 1).gives("holder 0", 8);
        x.does("putOut 0 0 8").row("rankOf 0 #", 9, "4 1 1 3 - - - - -").gives("record 0", 100);
    }

    private static void asked() {
        CHECK.promise(15, "Returns who goes on to the final.");
        CHECK.promise(15, "index: the index, from 0, in the order in which they came out of the round 0,"
                + " or that of the field");
        CHECK.promise(15, "Returns the athlete.");
        Run x = new Run(CHECK).athletes(0, 1, 2).does("event r 500 5 24").enters(0, 3, 2, 1).does("event j 1 1 2");
        x.gives("inFinal 0 0", 2).gives("inFinal 0 1", 1).gives("inFinal 0 2", 0);
        x.does("putOut 0 1 2").gives("inFinal 0 0", 2);
        nine(105, 102).gives("inFinal 0 0", 1).gives("inFinal 0 1", 0);
        CHECK.promise(15, "Throws IndexOutOfBoundsException if there is no such event");
        x.index("inFinal 2 0", "inFinal -1 0", "inFinal 2 -1", "inFinal " + Integer.MIN_VALUE + " 0");
        CHECK.promise(15, "Throws UnsupportedOperationException if the event is of another kind");
        x.kind("inFinal 1 0", "inFinal 1 -1").does("event t 1 1 2").kind("inFinal 2 0");
        CHECK.promise(15, "Throws NoSuchElementException if there are not so many");
        x.none("inFinal 0 3", "inFinal 0 -1", "inFinal 0 " + Integer.MIN_VALUE, "inFinal 0 " + Integer.MAX_VALUE);
        x.does("dope 2 true", "dope 1 true", "dope 0 true").none("inFinal 0 0");
    }
}
