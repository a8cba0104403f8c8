/** Promises 28 to 32: medals, the table, points, shares, and that all of it holds. */
public final class MedalsTest {
    private static final Check CHECK = new Check("MedalsTest");

    public static void main(String[] args) {
        medals();
        medalsOfThoseAlike();
        wrongMedals();
        table();
        pointsOfOneEvent();
        pointsShared();
        pointsRounded();
        pointsAdded();
        shares();
        truth();
        CHECK.finish();
    }

    /** A closed throw with a length for each athlete. */
    private static void closedThrow(HeatStadium x, int... lengths) {
        int event = x.event('t', 1, 5, 24);
        for (int i = 0; i < lengths.length; i++) {
            x.enter(event, i, 100);
            x.put(event, i, lengths[i]);
        }
        x.close(event, true);
    }

    private static void medals() {
        HeatStadium x = Games.withAthletes(3, 3, 5, 3);
        closedThrow(x, 400, 300, 200, 100);
        CHECK.asks("gold of 3", () -> x.medals(3, 1), 1);
        CHECK.asks("silver of 3", () -> x.medals(3, 2), 1);
        CHECK.asks("bronze of 3", () -> x.medals(3, 3), 0);
        CHECK.asks("all of 3", () -> x.medals(3, 0), 2);
        CHECK.asks("bronze of 5", () -> x.medals(5, 3), 1);
        CHECK.asks("all of 0", () -> x.medals(0, 0), 0);
        closedThrow(x, 100, 200, 300, 400);
        CHECK.asks("gold of 3 in two events", () -> x.medals(3, 1), 2);
        CHECK.asks("all of 3 in two events", () -> x.medals(3, 0), 4);
        x.close(0, false);
        CHECK.asks("of the closed one alone", () -> x.medals(3, 0), 2);
        x.dope(3, true);
        CHECK.asks("doping undoes them", () -> x.medals(5, 1), 1);
        x.dope(3, false);
        CHECK.asks("and appeals undo that", () -> x.medals(5, 1), 0);
    }

    private static void medalsOfThoseAlike() {
        HeatStadium x = Games.withAthletes(0, 1, 2, 3);
        closedThrow(x, 400, 400, 300, 300);
        CHECK.asks("gold of 0", () -> x.medals(0, 1), 1);
        CHECK.asks("gold of 1", () -> x.medals(1, 1), 1);
        CHECK.asks("no silver", () -> x.medals(2, 2), 0);
        CHECK.asks("bronze of 2", () -> x.medals(2, 3), 1);
        CHECK.asks("bronze of 3", () -> x.medals(3, 3), 1);
    }

    private static void wrongMedals() {
        HeatStadium x = new HeatStadium();
        CHECK.argument("nation -1", () -> x.medals(-1, 0));
        CHECK.argument("nation 8", () -> x.medals(8, 0));
        CHECK.argument("rank -1", () -> x.medals(0, -1));
        CHECK.argument("rank 4", () -> x.medals(0, 4));
        CHECK.argument("index -1", () -> x.inTable(-1, false));
        CHECK.argument("index 8", () -> x.inTable(8, true));
        CHECK.argument("points(-1)", () -> x.points(-1));
        CHECK.argument("points(8)", () -> x.points(8));
        CHECK.argument("shareBits(-1)", () -> x.shareBits(-1));
        CHECK.argument("shareBits(8)", () -> x.shareBits(8));
        CHECK.asks("shareBits without medals", () -> x.shareBits(0), "throws.ArithmeticException");
    }

    private static void table() {
        HeatStadium x = Games.withAthletes(7, 6, 6, 2, 4);
        closedThrow(x, 500, 400, 300, 0, 0);
        CHECK.due("more gold first", Games.table(x, false), "76012345");
        CHECK.due("all medals first", Games.table(x, true), "67012345");
        closedThrow(x, 0, 0, 100, 500, 400);
        CHECK.due("then the lower number, then more silver, then more bronze", Games.table(x, false), "27640135");
        CHECK.due("all medals first, then gold", Games.table(x, true), "62740135");
        HeatStadium bronze = Games.withAthletes(5, 1, 3);
        closedThrow(bronze, 500, 400, 300);
        closedThrow(bronze, 400, 500, 0);
        CHECK.due("then the lower number", Games.table(bronze, false), "15302467");
        closedThrow(bronze, 500, 400, 300);
        closedThrow(bronze, 400, 500, 300);
        CHECK.due("alike again", Games.table(bronze, false), "15302467");
    }

    private static void pointsOfOneEvent() {
        HeatStadium x = Games.withAthletes(0, 1, 2, 3, 4, 5, 6, 7, 7);
        closedThrow(x, 900, 800, 700, 600, 500, 400, 300, 200, 100);
        for (int nation = 0; nation < 8; nation++) {
            int asked = nation;
            CHECK.asks("points(" + nation + ")", () -> x.points(asked), 8.0 - nation);
        }
        x.close(0, false);
        CHECK.asks("of an open event", () -> x.points(0), 0.0);
    }

    private static void pointsShared() {
        HeatStadium x = Games.withAthletes(0, 1, 2, 3, 4, 5, 6, 7, 0, 1);
        closedThrow(x, 900, 900, 800, 700, 700, 700, 600, 500, 500, 500);
        CHECK.asks("2 share 8 and 7, 3 share 1", () -> x.points(0), 7.5 + 0.33);
        CHECK.asks("the other of these", () -> x.points(1), 7.5 + 0.33);
        CHECK.asks("6", () -> x.points(2), 6.0);
        CHECK.asks("3 share 5, 4 and 3", () -> x.points(4), 4.0);
        CHECK.asks("2", () -> x.points(6), 2.0);
        CHECK.asks("one of 3 who share 1", () -> x.points(7), 0.33);
    }

    /** So many alike behind so many ahead: all that 24 places allow. */
    private static void pointsRounded() {
        for (int ahead = 0; ahead < 12; ahead++) {
            for (int alike = 1; ahead + alike <= 24; alike++) {
                HeatStadium x = new HeatStadium();
                int[] lengths = new int[ahead + alike];
                for (int i = 0; i < lengths.length; i++) {
                    x.athlete(i == ahead ? 0 : 1 + i % 7);
                    lengths[i] = i < ahead ? 900 - i : 100;
                }
                closedThrow(x, lengths);
                double sum = 0;
                for (int place = ahead + 1; place <= ahead + alike; place++) {
                    sum += Math.max(0, 9 - place);
                }
                CHECK.asks(alike + " alike behind " + ahead, () -> x.points(0),
                        Math.rint(sum / alike * 100) / 100);
            }
        }
    }

    private static void pointsAdded() {
        HeatStadium x = Games.withAthletes(0, 0, 1);
        closedThrow(x, 100, 200, 300);
        closedThrow(x, 100, 100, 100);
        CHECK.asks("over events and athletes", () -> x.points(0), 6.0 + 7.0 + 7.0 + 7.0);
        CHECK.asks("of the other", () -> x.points(1), 15.0);
        CHECK.asks("of who has none", () -> x.points(2), 0.0);
    }

    private static void shares() {
        for (int all = 1; all <= 24; all++) {
            int count = all;
            HeatStadium x = new HeatStadium();
            int[] lengths = new int[all];
            int[] own = new int[8];
            for (int i = 0; i < all; i++) {
                x.athlete(i * i % 7);
                lengths[i] = 100;
            }
            closedThrow(x, lengths);
            for (int i = 0; i < x.field(0); i++) {
                int athlete = x.inField(0, i);
                own[athlete * athlete % 7]++;
            }
            int given = x.field(0);
            for (int nation = 0; nation < 8; nation++) {
                int asked = nation;
                CHECK.asks("share of " + nation + " of " + count, () -> x.shareBits(asked),
                        Float.floatToIntBits((float) own[nation] / (float) given));
            }
        }
    }

    private static void truth() {
        HeatStadium x = Games.race(0, 1, 2, 3, 4, 5, 6, 7, 0);
        CHECK.asks("without marks", x::isTrue, true);
        Games.times(x, 0, 9, 8, 7, 6, 5, 4, 3, 2, 1);
        Games.times(x, 1, 9, 8, 7, 6, 5, 4, 3, 2, 1);
        x.close(0, true);
        CHECK.asks("with medals", x::isTrue, true);
        x.dope(4, true);
        CHECK.asks("with doping", x::isTrue, true);
    }
}
