/** Promises 1 to 8: new games, athletes, events, entries, withdrawals, fields, the clock. */
public final class EntriesTest {
    private static final Check CHECK = new Check("EntriesTest");

    public static void main(String[] args) {
        newGames();
        athletes();
        events();
        entries();
        withdrawals();
        fieldsInOrder();
        fieldsWithQuotaAndLimit();
        fieldsNow();
        clock();
        CHECK.finish();
    }

    private static void newGames() {
        HeatStadium x = new HeatStadium();
        CHECK.index("field(0) of new games", () -> x.field(0));
        CHECK.index("dope(0) of new games", () -> x.dope(0, true));
        CHECK.index("decide(0) of new games", () -> x.decide(0, true));
        CHECK.asks("medals(0, 0) of new games", () -> x.medals(0, 0), 0);
        CHECK.asks("points(0) of new games", () -> x.points(0), 0.0);
        CHECK.due("inTable of new games", Games.table(x, false), "01234567");
        CHECK.asks("isTrue() of new games", x::isTrue, true);
        CHECK.asks("the first minute", () -> x.pass(1), 1);
    }

    private static void athletes() {
        HeatStadium x = new HeatStadium();
        CHECK.argument("athlete(-1)", () -> x.athlete(-1));
        CHECK.argument("athlete(8)", () -> x.athlete(8));
        for (int i = 0; i < 30; i++) {
            int number = i;
            CHECK.asks("athlete " + i, () -> x.athlete(number % 8), i);
        }
        CHECK.state("athlete 30", () -> x.athlete(0));
        CHECK.argument("athlete 30 of no nation", () -> x.athlete(8));
    }

    private static void events() {
        HeatStadium x = new HeatStadium();
        CHECK.argument("kind R", () -> x.event('R', 1, 1, 2));
        CHECK.argument("kind 0", () -> x.event((char) 0, 1, 1, 2));
        CHECK.argument("standard 0", () -> x.event('r', 0, 1, 2));
        CHECK.argument("standard 1000000", () -> x.event('r', 1000000, 1, 2));
        CHECK.argument("quota 0", () -> x.event('r', 1, 0, 2));
        CHECK.argument("quota 6", () -> x.event('r', 1, 6, 2));
        CHECK.argument("limit 1", () -> x.event('r', 1, 1, 1));
        CHECK.argument("limit 25", () -> x.event('r', 1, 1, 25));
        CHECK.asks("event 0", () -> x.event('r', 1, 1, 2), 0);
        CHECK.asks("event 1", () -> x.event('j', 999999, 5, 24), 1);
        CHECK.asks("event 2", () -> x.event('t', 1, 5, 2), 2);
        CHECK.asks("event 3", () -> x.event('t', 1, 5, 2), 3);
        CHECK.asks("event 4", () -> x.event('t', 1, 5, 2), 4);
        CHECK.state("event 5", () -> x.event('t', 1, 5, 2));
        CHECK.argument("event 5 of no kind", () -> x.event('x', 1, 5, 2));
    }

    private static void entries() {
        HeatStadium x = Games.withAthletes(0, 1, 2);
        x.event('r', 500, 5, 24);
        CHECK.asks("enter 0", () -> x.enter(0, 0, 1), 1);
        CHECK.asks("enter 1", () -> x.enter(0, 1, 999999), 2);
        CHECK.asks("enter 0 again", () -> x.enter(0, 0, 500), 2);
        CHECK.index("no event", () -> x.enter(1, 0, 0));
        CHECK.index("event -1", () -> x.enter(-1, 0, 1));
        CHECK.index("no athlete", () -> x.enter(0, 3, 0));
        CHECK.index("athlete -1", () -> x.enter(0, -1, 1));
        CHECK.argument("best 0", () -> x.enter(0, 2, 0));
        CHECK.argument("best 1000000", () -> x.enter(0, 2, 1000000));
        x.withdraw(0, 0, true);
        CHECK.asks("withdrawn ones are counted", () -> x.enter(0, 0, 400), 2);
        CHECK.asks("who has withdrawn stays so", () -> x.field(0), 0);
        x.close(0, true);
        CHECK.state("closed", () -> x.enter(0, 2, 100));
        CHECK.argument("closed, and out of range", () -> x.enter(0, 2, 0));
        x.close(0, false);
        CHECK.asks("nothing was changed", () -> x.enter(0, 2, 100), 3);
    }

    private static void withdrawals() {
        HeatStadium x = Games.withAthletes(0, 1);
        x.event('r', 500, 5, 24);
        x.enter(0, 0, 100);
        CHECK.index("no event", () -> x.withdraw(1, 0, true));
        CHECK.index("no athlete", () -> x.withdraw(0, 2, true));
        CHECK.none("not entered", () -> x.withdraw(0, 1, true));
        CHECK.asks("withdraw", () -> x.withdraw(0, 0, true), false);
        CHECK.asks("withdraw again", () -> x.withdraw(0, 0, true), true);
        CHECK.asks("out of the field", () -> x.field(0), 0);
        CHECK.asks("take back", () -> x.withdraw(0, 0, false), true);
        CHECK.asks("in the field", () -> x.field(0), 1);
        x.close(0, true);
        CHECK.state("closed", () -> x.withdraw(0, 0, true));
        CHECK.none("closed, and not entered", () -> x.withdraw(0, 1, true));
        CHECK.asks("nothing was changed", () -> x.field(0), 1);
    }

    private static void fieldsInOrder() {
        HeatStadium x = Games.withAthletes(0, 1, 2, 3, 4);
        x.event('r', 500, 5, 24);
        x.event('t', 500, 5, 24);
        int[] bests = {500, 499, 501, 499, 1};
        for (int i = 0; i < 5; i++) {
            x.enter(0, i, bests[i]);
            x.enter(1, i, bests[i]);
        }
        CHECK.due("a race: the lesser is the better", Games.field(x, 0), "4 1 3 0");
        CHECK.due("a throw: the greater is the better", Games.field(x, 1), "2 0");
        CHECK.index("field of no event", () -> x.field(2));
        CHECK.index("inField of no event", () -> x.inField(2, 0));
        CHECK.none("inField(0, 4)", () -> x.inField(0, 4));
        CHECK.none("inField(0, -1)", () -> x.inField(0, -1));
        x.enter(0, 0, 2);
        CHECK.due("with another best", Games.field(x, 0), "4 0 1 3");
    }

    private static void fieldsWithQuotaAndLimit() {
        HeatStadium x = Games.withAthletes(0, 0, 0, 1, 1, 2);
        x.event('j', 100, 2, 3);
        for (int i = 0; i < 6; i++) {
            x.enter(0, i, 200 - i);
        }
        CHECK.due("two of a nation, three in all", Games.field(x, 0), "0 1 3");
        x.withdraw(0, 0, true);
        CHECK.due("withdrawn ones use up no quota", Games.field(x, 0), "1 2 3");
        x.enter(0, 1, 99);
        CHECK.due("who misses the standard uses up no quota", Games.field(x, 0), "2 3 4");
        x.dope(2, true);
        CHECK.due("who is doped uses up no quota", Games.field(x, 0), "3 4 5");
    }

    private static void fieldsNow() {
        HeatStadium x = Games.ofKind('t', 3);
        x.close(0, true);
        x.dope(1, true);
        CHECK.due("the field of a closed event goes by now", Games.field(x, 0), "0 2");
        x.dope(1, false);
        CHECK.due("and with the appeal", Games.field(x, 0), "0 1 2");
        HeatStadium full = Games.ofKind('r', 30);
        CHECK.asks("at most 24", () -> full.field(0), 24);
    }

    private static void clock() {
        HeatStadium x = new HeatStadium();
        CHECK.argument("pass(0)", () -> x.pass(0));
        CHECK.argument("pass(-1)", () -> x.pass(-1));
        CHECK.argument("pass(10000)", () -> x.pass(10000));
        CHECK.asks("pass(9999)", () -> x.pass(9999), 9999);
        CHECK.asks("pass(1)", () -> x.pass(1), 10000);
    }
}
