import java.util.StringJoiner;

/** Promises 28 to 32, "Medals": medals, the table, points, shares, and that all of it holds. */
public final class MedalsTest {
    private static final Check CHECK = new Check("MedalsTest");

    public static void main(String[] args) {
        toAllWhoHaveIt();
        closedEventsAlone();
        allKinds();
        medalsAsked();
        medalsRefused();
        tableByGold();
        tableByAll();
        tableRefused();
        pointsOfPlaces();
        pointsShared();
        pointsRounded();
        pointsAdded();
        pointsRefused();
        shares();
        sharesRefused();
        truth();
        CHECK.finish();
    }

    /** A closed throw, the next event, with a length for each athlete from 0 on; 0 for who does not enter. */
    private static Run closedThrow(Run run, int... lengths) {
        String event = run.ask("event t 1 5 24");
        for (int i = 0; i < lengths.length; i++) {
            if (lengths[i] > 0) {
                run.does("enter " + event + " " + i + " 100", "put " + event + " " + i + " " + lengths[i]);
            }
        }
        return run.does("close " + event + " true");
    }

    private static Run of(int... nations) {
        return new Run(CHECK).athletes(nations);
    }

    private static void toAllWhoHaveIt() {
        CHECK.terms("A closed event gives gold to the rank 1, silver to 2, and bronze to 3, to all who have it.");
        Run x = closedThrow(of(3, 3, 5, 3), 400, 300, 200, 100);
        x.row("medals 3 #", 4, "2 1 1 0").row("medals 5 #", 4, "1 0 0 1").row("medals 0 #", 4, "0 0 0 0");
        Run gold = closedThrow(of(0, 1, 2, 3, 4), 400, 400, 300, 300, 200);
        gold.row("medals # 1", 5, "1 1 0 0 0").row("medals # 2", 5, "0 0 0 0 0").row("medals # 3", 5, "0 0 1 1 0");
        Run silver = closedThrow(of(0, 1, 2, 3, 4), 400, 300, 300, 200, 400);
        silver.row("medals # 1", 5, "1 0 0 0 1").row("medals # 2", 5, "0 0 0 0 0").row("medals # 3", 5, "0 1 1 0 0");
        Run two = closedThrow(of(0, 1, 2, 3, 4), 400, 300, 300, 200, 100);
        two.row("medals # 2", 5, "0 1 1 0 0").row("medals # 3", 5, "0 0 0 0 0").row("medals # 0", 5, "1 1 1 0 0");
        closedThrow(of(7, 7, 7), 5, 5, 5).row("medals 7 #", 4, "3 3 0 0");
        closedThrow(of(7)).row("medals 7 #", 4, "0 0 0 0");
    }

    private static void closedEventsAlone() {
        CHECK.terms("A closed event gives gold to the rank 1");
        Run x = closedThrow(closedThrow(of(0, 1), 400, 300), 100, 200).row("medals 0 #", 4, "2 1 1 0");
        x.does("close 0 false").row("medals 0 #", 4, "1 0 1 0").does("close 1 false").row("medals 0 #", 4, "0 0 0 0");
        x.does("close 0 true").row("medals 0 #", 4, "1 1 0 0").row("points #", 2, "8.0 7.0");
    }

    private static void allKinds() {
        CHECK.terms("A closed event gives gold to the rank 1, silver to 2, and bronze to 3, to all who have it.");
        Run race = Run.race(CHECK, 0, 1, 2, 3).times(0, 1, 40, 30, 20, 10).does("close 0 true");
        race.row("medals # 1", 4, "0 0 0 1").row("medals # 2", 4, "0 0 1 0").row("medals # 3", 4, "0 1 0 0");
        Run jump = Run.of(CHECK, 'j', 4).does("bar 0 9").jumps(0, 0, "xo").jumps(0, 1, "o").jumps(0, 2, "xxo");
        jump.jumps(0, 3, "xxx").does("close 0 true").row("medals # 1", 4, "0 1 0 0").row("medals # 2", 4, "1 0 0 0");
        jump.row("medals # 0", 4, "1 1 1 0");
        CHECK.terms("Who is found doped is in no field, and has no result, in all events, until an appeal is upheld.");
        race.does("dope 3 true").row("medals # 1", 4, "0 0 1 0").row("medals # 3", 4, "1 0 0 0");
        race.does("dope 3 false").row("medals # 1", 4, "0 0 0 1").row("medals # 3", 4, "0 1 0 0");
    }

    private static void medalsAsked() {
        CHECK.promise(28, "Returns the medals of a nation.");
        CHECK.promise(28, "nation: the nation, 0 to 7");
        CHECK.promise(28, "rank: 1 gold, 2 silver, 3 bronze, 0 all of them");
        CHECK.promise(28, "Returns how many.");
        Run x = closedThrow(closedThrow(closedThrow(of(7, 0, 7, 0), 9, 8, 7, 6), 9, 8, 7), 0, 8, 7);
        x.row("medals 7 #", 4, "5 2 1 2").row("medals 0 #", 4, "3 1 2 0").row("medals # 0", 8, "3 0 0 0 0 0 0 5");
    }

    private static void medalsRefused() {
        CHECK.promise(28, "Throws IllegalArgumentException if there is no such nation or rank");
        new Run(CHECK).argument("medals -1 0", "medals 8 0", "medals 0 -1", "medals 7 4", "medals 8 4",
                "medals " + Integer.MIN_VALUE + " 0", "medals " + Integer.MAX_VALUE + " 3", "medals 0 " + Integer.MIN_VALUE,
                "medals 0 " + Integer.MAX_VALUE);
    }

    private static void tableByGold() {
        CHECK.promise(29, "Returns a nation by the table: more gold first, then more silver, then more bronze,"
                + " then the lower number");
        CHECK.promise(29, "Returns the nation.");
        CHECK.promise(29, "index: the index, 0 to 7");
        new Run(CHECK).row("inTable # false", 8, "0 1 2 3 4 5 6 7");
        closedThrow(of(7, 6, 6), 500, 400, 300).row("inTable # false", 8, "7 6 0 1 2 3 4 5");
        // 3 and 5 have a gold each, and 5 has a silver; then 1 and 4 have gold and silver alike, and 4 has a bronze more
        Run silver = closedThrow(closedThrow(of(3, 5, 2), 500, 400), 0, 400, 200).row("inTable # false", 8, "5 3 2 0 1 4 6 7");
        closedThrow(silver, 9).row("inTable # false", 8, "3 5 2 0 1 4 6 7");
        Run bronze = closedThrow(closedThrow(of(1, 4, 1, 4), 9, 8, 7), 8, 9, 0, 7).row("inTable # false", 8, "1 4 0 2 3 5 6 7");
        closedThrow(bronze, 9, 9, 0, 7).row("inTable # false", 8, "4 1 0 2 3 5 6 7");
    }

    private static void tableByAll() {
        CHECK.promise(29, "or by all medals first, then so.");
        CHECK.promise(29, "byAll: whether by all medals first");
        new Run(CHECK).row("inTable # true", 8, "0 1 2 3 4 5 6 7");
        Run x = closedThrow(of(7, 6, 6), 500, 400, 300).row("inTable # true", 8, "6 7 0 1 2 3 4 5");
        closedThrow(x, 200, 0, 0).row("inTable # true", 8, "7 6 0 1 2 3 4 5");
        // 3 has gold, 2 has silver and 1 has bronze, each one medal in all; 4 has two bronze
        Run one = closedThrow(closedThrow(of(3, 2, 1, 4, 4), 9, 8, 7), 5, 5, 0, 4, 4);
        one.row("inTable # true", 8, "3 2 4 1 0 5 6 7").row("inTable # false", 8, "3 2 4 1 0 5 6 7");
        Run two = closedThrow(closedThrow(of(1, 0, 2), 9, 8, 7), 0, 9, 8).row("inTable # true", 8, "0 2 1 3 4 5 6 7");
        two.row("inTable # false", 8, "0 1 2 3 4 5 6 7");
        closedThrow(two, 9, 8, 7).row("inTable # true", 8, "0 2 1 3 4 5 6 7").row("inTable # false", 8, "1 0 2 3 4 5 6 7");
    }

    private static void tableRefused() {
        CHECK.promise(29, "Throws IllegalArgumentException if there is no such index");
        new Run(CHECK).argument("inTable -1 false", "inTable 8 true", "inTable 8 false", "inTable " + Integer.MIN_VALUE
                + " true", "inTable " + Integer.MAX_VALUE + " false").gives("inTable 7 true", 7);
    }

    private static void pointsOfPlaces() {
        CHECK.terms("Points of a closed event are 8 for the first place down to 1 for the eighth");
        CHECK.promise(30, "Returns the points of a nation.");
        CHECK.promise(30, "nation: the nation, 0 to 7");
        Run x = closedThrow(of(0, 1, 2, 3, 4, 5, 6, 7, 7), 900, 800, 700, 600, 500, 400, 300, 200, 100);
        x.row("points #", 8, "8.0 7.0 6.0 5.0 4.0 3.0 2.0 1.0");
        x.does("dope 0 true").row("points #", 8, "0.0 8.0 7.0 6.0 5.0 4.0 3.0 3.0");
        x.does("dope 0 false", "close 0 false").row("points #", 8, "0.0 0.0 0.0 0.0 0.0 0.0 0.0 0.0");
        closedThrow(of(0, 1, 2, 3, 4, 5, 6, 0, 7), 900, 800, 700, 600, 500, 400, 300, 200, 100).gives("points 7", 0.0);
    }

    private static void pointsShared() {
        CHECK.terms("those who are alike share the points of their places alike, each getting the sum divided by"
                + " how many they are");
        Run x = closedThrow(of(0, 1, 2, 3, 4, 5, 6, 7, 0, 1), 900, 900, 800, 700, 700, 700, 600, 500, 500, 500);
        x.row("points #", 8, "7.83 7.83 6.0 4.0 4.0 4.0 2.0 0.33");
        // the ninth place has none to share with the eighth
        closedThrow(of(0, 0, 0, 0, 0, 1, 1, 2, 3), 90, 80, 70, 60, 50, 40, 30, 20, 20).row("points #", 4, "30.0 5.0 0.5 0.5");
        closedThrow(of(0, 0, 0, 0, 0, 1, 1, 1, 2, 3), 90, 80, 70, 60, 50, 40, 30, 20, 10, 10)
                .row("points #", 4, "30.0 6.0 0.0 0.0");
    }

    /** So many alike behind so many ahead: all that 24 places allow. */
    private static void pointsRounded() {
        CHECK.terms("rounded to hundredths as Math.rint does it.");
        for (int ahead = 0; ahead < 9; ahead++) {
            for (int alike = 1; ahead + alike <= 24; alike++) {
                Run x = new Run(CHECK);
                int[] lengths = new int[ahead + alike];
                for (int i = 0; i < lengths.length; i++) {
                    x.does("athlete " + (i == ahead ? 0 : 1 + i % 7));
                    lengths[i] = i < ahead ? 900 - i : 100;
                }
                int sum = 0;
                for (int place = ahead + 1; place <= Math.min(8, ahead + alike); place++) {
                    sum += 9 - place;
                }
                closedThrow(x, lengths).gives("points 0", Math.rint((double) sum / alike * 100) / 100);
            }
        }
        // halves of hundredths go to the even one: 2.625 for eight from the third place, 1.875 for eight from the fourth
        closedThrow(of(7, 7, 0, 1, 1, 2, 2, 3, 3, 4), 9, 8, 5, 5, 5, 5, 5, 5, 5, 5).gives("points 0", 2.62);
        closedThrow(of(7, 7, 7, 0, 1, 1, 2, 2, 3, 3, 4), 9, 8, 7, 5, 5, 5, 5, 5, 5, 5, 5).gives("points 0", 1.88);
    }

    /** Sums of doubles that another order, or a sum for each event, would end otherwise. */
    private static void pointsAdded() {
        CHECK.promise(30, "Returns the sum, over events by their numbers and in them over athletes by their numbers.");
        closedThrow(closedThrow(of(1, 1, 0, 1, 2, 0, 0, 0, 2, 0), 2, 4, 4, 3, 2, 2, 2, 4, 2, 4), 2, 4, 4, 4, 3, 2, 4, 2, 4, 4)
                .gives("points 0", 6.5 + 1.2 + 1.2 + 6.5 + 6.5 + 5.5 + 0.33 + 5.5 + 0.33 + 5.5)
                .gives("points 0", 39.059999999999995);
        closedThrow(closedThrow(of(0, 1, 1, 0, 2, 2, 3, 0, 3, 4), 5, 3, 4, 3, 3, 3, 3, 3, 2, 3), 2, 4, 2, 2, 2, 2, 3, 4, 2, 4)
                .gives("points 0", 8.0 + 3.0 + 3.0 + 1.67 + 1.67 + 7.0)
                .gives("points 0", 24.34);
        closedThrow(closedThrow(of(1, 1, 2, 0, 0, 0, 2, 0, 3, 0), 3, 2, 3, 3, 2, 2, 4, 3, 2, 2), 4, 4, 4, 3, 4, 4, 2, 4, 3, 4)
                .gives("points 0", 5.5 + 1.2 + 1.2 + 5.5 + 1.2 + 0.5 + 5.0 + 5.0 + 5.0 + 5.0)
                .gives("points 0", 35.1);
    }

    private static void pointsRefused() {
        CHECK.promise(30, "Throws IllegalArgumentException if there is no such nation");
        new Run(CHECK).argument("points -1", "points 8", "points " + Integer.MIN_VALUE, "points " + Integer.MAX_VALUE)
                .gives("points 7", 0.0);
    }

    private static void shares() {
        CHECK.promise(31, "Returns the bits of the share of the medals that a nation has,"
                + " as Float.floatToIntBits tells it.");
        CHECK.promise(31, "nation: the nation, 0 to 7");
        CHECK.promise(31, "Returns their number divided by that of all medals, both converted to float.");
        for (int all = 1; all <= 24; all++) {
            for (int own = 0; own <= 5 && own <= all; own++) {
                Run x = new Run(CHECK);
                int[] lengths = new int[all];
                for (int i = 0; i < all; i++) {
                    x.does("athlete " + (i < own ? 7 : i % 7));
                    lengths[i] = 100;
                }
                closedThrow(x, lengths).gives("shareBits 7", Float.floatToIntBits((float) own / (float) all));
            }
        }
        Run three = closedThrow(of(0, 0, 1), 9, 8, 7).gives("shareBits 0", Float.floatToIntBits(2f / 3f));
        three.gives("shareBits 1", Float.floatToIntBits(1f / 3f)).gives("shareBits 2", 0).does("dope 2 true");
        three.gives("shareBits 0", Float.floatToIntBits(1f)).gives("shareBits 0", 1065353216);
        closedThrow(three, 9, 8).gives("shareBits 0", 1065353216).does("dope 2 false").gives("shareBits 1",
                Float.floatToIntBits(1f / 5f));
    }

    private static void sharesRefused() {
        CHECK.promise(31, "Throws IllegalArgumentException if there is no such nation");
        Run x = of(0).argument("shareBits -1", "shareBits 8", "shareBits " + Integer.MIN_VALUE, "shareBits " + Integer.MAX_VALUE);
        CHECK.promise(31, "Throws ArithmeticException if there are none");
        x.refuses("ArithmeticException", "shareBits 0", "shareBits 7");
        closedThrow(x, 5).gives("shareBits 1", 0).argument("shareBits 8").does("close 0 false");
        x.refuses("ArithmeticException", "shareBits 0").does("close 0 true", "dope 0 true");
        x.refuses("ArithmeticException", "shareBits 0").argument("shareBits -1");
    }

    private static void truth() {
        CHECK.promise(32, "Checks that all who have a rank are in the field, that of each race's final at most 8 are in it,"
                + " each in a lane of its own, and that all medals are those of nations together.");
        CHECK.promise(32, "Returns whether all of it holds.");
        new Run(CHECK).gives("isTrue", true);
        Run x = Run.race(CHECK, 0, 1, 2, 3, 4, 5, 6, 7, 0).gives("isTrue", true);
        x.times(0, 0, 9, 8, 7, 6, 5, 4, 3, 2, 1).times(0, 1, 9, 8, 7, 6, 5, 4, 3, 2, 1).gives("isTrue", true);
        StringJoiner lanes = new StringJoiner(" ");
        for (int i = 0; i < 8; i++) {
            lanes.add(x.ask("laneOf 0 1 " + x.ask("inFinal 0 " + i)));
        }
        CHECK.due("lanes of the final", lanes, "4 5 3 6 7 8 1 2");
        x.does("close 0 true").gives("isTrue", true).does("dope 4 true").gives("isTrue", true);
        closedThrow(x, 5, 5, 5, 4).gives("isTrue", true);
        closedThrow(of(0, 1), 5, 4).gives("isTrue", true);
        closedThrow(of(0, 1, 2, 2), 5, 5, 4, 4).gives("isTrue", true);
        Run.of(CHECK, 'r', 24).gives("isTrue", true);
    }
}
