/** Promises 21 to 24: protests, decisions, doping, closing. */
public final class ProtestsTest {
    private static final Check CHECK = new Check("ProtestsTest");

    public static void main(String[] args) {
        within30Minutes();
        notBegunAnew();
        decisions();
        onceForEachRound();
        wrongProtests();
        closedEvents();
        doping();
        closing();
        CHECK.finish();
    }

    private static void within30Minutes() {
        HeatStadium x = Games.race(0, 1);
        x.pass(5);
        x.putOut(0, 1, 0);
        x.react(0, 1, 1, 0);
        x.pass(30);
        CHECK.asks("the thirtieth included", () -> x.protest(0, 1, 0), 0);
        x.pass(1);
        CHECK.state("too late", () -> x.protest(0, 1, 1));
        CHECK.asks("while it is not decided", () -> x.isOut(0, 1, 0), true);
    }

    private static void notBegunAnew() {
        HeatStadium x = Games.race(0, 1);
        x.putOut(0, 1, 0);
        x.pass(20);
        x.putOut(0, 1, 0);
        x.pass(11);
        CHECK.state("the 30 minutes began at the first", () -> x.protest(0, 1, 0));
        CHECK.asks("for another round", () -> x.putOut(0, 0, 0), true);
        CHECK.asks("they are others", () -> x.protest(0, 0, 0), 0);
    }

    private static void decisions() {
        HeatStadium x = Games.race(0, 1, 2);
        Games.times(x, 1, 10, 20, 0);
        for (int i = 0; i < 3; i++) {
            x.putOut(0, 1, i);
            x.protest(0, 1, i);
        }
        CHECK.due("all out", Games.ranks(x, 0, 3), "- - -");
        CHECK.index("no protest 3", () -> x.decide(3, true));
        CHECK.index("no protest -1", () -> x.decide(-1, true));
        CHECK.asks("rejected", () -> x.decide(1, false), 100L);
        CHECK.state("decided", () -> x.decide(1, true));
        CHECK.due("still out", Games.ranks(x, 0, 3), "- - -");
        CHECK.asks("upheld", () -> x.decide(0, true), 100L);
        CHECK.state("decided so", () -> x.decide(0, false));
        CHECK.due("the mark counts", Games.ranks(x, 0, 3), "1 - -");
        CHECK.asks("not out", () -> x.isOut(0, 1, 0), false);
        CHECK.asks("rejected, too", () -> x.decide(2, false), 200L);
    }

    private static void onceForEachRound() {
        HeatStadium x = Games.race(0, 1);
        x.putOut(0, 1, 0);
        CHECK.asks("the first", () -> x.protest(0, 1, 0), 0);
        CHECK.state("not decided", () -> x.protest(0, 1, 0));
        x.decide(0, true);
        CHECK.state("not out", () -> x.protest(0, 1, 0));
        CHECK.asks("the mark is told again", () -> x.react(0, 1, 0, 99), true);
        CHECK.asks("out again", () -> x.isOut(0, 1, 0), true);
        CHECK.state("protested before", () -> x.protest(0, 1, 0));
        x.putOut(0, 0, 0);
        CHECK.asks("for the round 0", () -> x.protest(0, 0, 0), 1);
    }

    private static void wrongProtests() {
        HeatStadium x = Games.race(0, 1);
        x.event('j', 1, 1, 2);
        CHECK.index("no event", () -> x.protest(2, 2, 0));
        CHECK.index("no athlete", () -> x.protest(0, 2, 2));
        CHECK.argument("round 2", () -> x.protest(1, 2, 0));
        CHECK.argument("round -1", () -> x.protest(0, -1, 0));
        CHECK.kind("of another kind", () -> x.protest(1, 1, 0));
        CHECK.state("not out", () -> x.protest(0, 1, 0));
        x.putOut(0, 1, 0);
        CHECK.state("not out of this round", () -> x.protest(0, 0, 0));
        CHECK.asks("nothing was changed", () -> x.protest(0, 1, 0), 0);
    }

    private static void closedEvents() {
        HeatStadium x = Games.race(0, 1);
        Games.times(x, 1, 10, 20);
        x.putOut(0, 1, 0);
        x.close(0, true);
        CHECK.asks("a protest about a closed event", () -> x.protest(0, 1, 0), 0);
        CHECK.asks("gold", () -> x.medals(1, 1), 1);
        x.decide(0, true);
        CHECK.asks("gold, decided", () -> x.medals(0, 1), 1);
        CHECK.asks("silver, decided", () -> x.medals(1, 2), 1);
    }

    private static void doping() {
        HeatStadium x = Games.race(0, 1);
        x.event('t', 1, 5, 24);
        x.enter(1, 0, 5);
        x.put(1, 0, 10);
        Games.times(x, 1, 10, 20);
        CHECK.index("no athlete", () -> x.dope(2, true));
        CHECK.index("athlete -1", () -> x.dope(-1, false));
        CHECK.asks("found", () -> x.dope(0, true), false);
        CHECK.asks("found again", () -> x.dope(0, true), true);
        CHECK.due("no result in the race", Games.ranks(x, 0, 2), "- 1");
        CHECK.due("nor in the throw", Games.ranks(x, 1, 2), "- -");
        CHECK.none("nor a record", () -> x.record(1));
        CHECK.asks("the record of the race", () -> x.holder(0), 1);
        CHECK.asks("upheld", () -> x.dope(0, false), true);
        CHECK.asks("upheld again", () -> x.dope(0, false), false);
        CHECK.due("all is undone", Games.ranks(x, 0, 2), "1 2");
        CHECK.asks("the record, too", () -> x.holder(0), 0);
    }

    private static void closing() {
        HeatStadium x = Games.race(0, 1);
        Games.times(x, 1, 10, 20);
        CHECK.index("no event", () -> x.close(1, true));
        CHECK.index("event -1", () -> x.close(-1, true));
        CHECK.asks("no medals before", () -> x.medals(0, 0), 0);
        CHECK.asks("no points before", () -> x.points(0), 0.0);
        CHECK.asks("close", () -> x.close(0, true), false);
        CHECK.asks("close again", () -> x.close(0, true), true);
        CHECK.asks("a medal", () -> x.medals(0, 0), 1);
        CHECK.asks("open", () -> x.close(0, false), true);
        CHECK.asks("open again", () -> x.close(0, false), false);
        CHECK.asks("no medals then", () -> x.medals(0, 0), 0);
    }
}
