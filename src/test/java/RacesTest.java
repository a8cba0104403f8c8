/** Promises 9 to 15: heats, lanes, times, false starts, who is out, who goes on. */
public final class RacesTest {
    private static final Check CHECK = new Check("RacesTest");

    public static void main(String[] args) {
        heatsByTurns();
        nationsKeptApart();
        fullHeats();
        fullField();
        heatsNow();
        wrongHeats();
        lanes();
        wrongLanes();
        timesShown();
        wrongTimes();
        starts();
        wrongStarts();
        puttingOut();
        finalAlone();
        goingOn();
        lots();
        goingOnOfFew();
        finalAnew();
        finalWithThreeHeats();
        CHECK.finish();
    }

    private static void heatsByTurns() {
        CHECK.due("eight run the final alone", Games.heats(Games.race(0, 0, 0, 1, 1, 2, 3, 4), 8), "00000000");
        CHECK.due("sixteen of eight nations",
                Games.heats(Games.race(0, 1, 2, 3, 4, 5, 6, 7, 1, 0, 3, 2, 5, 4, 7, 6), 16), "0110011001100110");
        CHECK.due("seventeen run three heats",
                Games.heats(seventeen(), 17), "01221001221001221");
    }

    /** No nation comes twice into the heat whose turn it is. */
    private static HeatStadium seventeen() {
        return Games.race(0, 0, 0, 1, 1, 1, 2, 2, 2, 3, 3, 3, 4, 4, 4, 5, 5);
    }

    private static void nationsKeptApart() {
        CHECK.due("into the next heat without the nation",
                Games.heats(Games.race(0, 1, 2, 3, 4, 5, 6, 7, 0), 9), "011001101");
        CHECK.due("a turn that was passed over is lost",
                Games.heats(Games.race(0, 1, 1, 2, 3, 4, 5, 6, 7), 9), "010011001");
        CHECK.due("a nation in all heats goes into the first one with room",
                Games.heats(Games.race(0, 0, 0, 0, 1, 2, 3, 4, 5), 9), "011001100");
    }

    private static void fullHeats() {
        CHECK.due("heat 0 is full after 12",
                Games.heats(Games.race(0, 1, 1, 2, 3, 3, 4, 5, 5, 6, 7, 7, 0, 2, 1), 15), "010010010010111");
    }

    private static void fullField() {
        HeatStadium x = Games.ofKind('r', 30);
        CHECK.due("heats of 24", Games.heats(x, 24), "012210012210012210012210");
        CHECK.none("not in the field", () -> x.heatOf(0, 24));
        for (int i = 0; i < 30; i++) {
            x.time(0, 0, i, 100 + (i + 6) % 30, false, 0);
        }
        CHECK.due("finalists of 24", Games.finalists(x, 0), "0 1 2 3 4 5 6 7");
        CHECK.due("lanes of a heat of 8", Games.lanes(x, 0, 0, 5, 6, 11, 12, 17, 18, 23), "45367812");
    }

    private static void heatsNow() {
        HeatStadium x = Games.race(0, 1, 2, 3, 4, 5, 6, 7, 0);
        CHECK.asks("heat of 1", () -> x.heatOf(0, 1), 1);
        x.close(0, true);
        x.dope(8, true);
        CHECK.asks("heat of 1 with eight left", () -> x.heatOf(0, 1), 0);
        x.dope(8, false);
        CHECK.asks("heat of 1 with the appeal", () -> x.heatOf(0, 1), 1);
    }

    private static void wrongHeats() {
        HeatStadium x = Games.race(0, 1);
        x.athlete(2);
        x.event('t', 1, 1, 2);
        CHECK.index("no event", () -> x.heatOf(2, 0));
        CHECK.index("event -1", () -> x.heatOf(-1, 0));
        CHECK.index("no athlete", () -> x.heatOf(0, 3));
        CHECK.index("no athlete, and of another kind", () -> x.heatOf(1, 3));
        CHECK.kind("of another kind", () -> x.heatOf(1, 0));
        CHECK.none("not in the field", () -> x.heatOf(0, 2));
    }

    private static void lanes() {
        HeatStadium x = Games.race(0, 1, 2, 3, 4, 5, 6, 7, 0);
        CHECK.due("heat 0", Games.lanes(x, 0, 0, 3, 4, 7), "4536");
        CHECK.due("heat 1", Games.lanes(x, 0, 1, 2, 5, 6, 8), "45367");
        x.putOut(0, 0, 1);
        CHECK.due("who is out has a lane", Games.lanes(x, 0, 1, 2), "45");
        HeatStadium alone = Games.race(0, 1, 2, 3, 4, 5, 6, 7);
        CHECK.due("the final alone", Games.lanes(alone, 1, 0, 1, 2, 3, 4, 5, 6, 7), "45367812");
        Games.times(x, 0, 105, 102, 100, 101, 103, 106, 107, 104, 108);
        CHECK.due("in the order out of the round 0", Games.lanes(x, 1, 2, 3, 4, 5, 7, 0, 6, 8), "45367812");
        x.putOut(0, 1, 2);
        CHECK.due("who is out of the final keeps the lane", Games.lanes(x, 1, 2, 3), "45");
    }

    private static void wrongLanes() {
        HeatStadium x = Games.race(0, 1);
        x.athlete(2);
        x.event('j', 1, 1, 2);
        CHECK.index("no event", () -> x.laneOf(2, 2, 0));
        CHECK.index("no athlete", () -> x.laneOf(0, 2, 3));
        CHECK.argument("round 2", () -> x.laneOf(0, 2, 0));
        CHECK.argument("round -1, of another kind", () -> x.laneOf(1, -1, 0));
        CHECK.kind("of another kind", () -> x.laneOf(1, 0, 0));
        CHECK.none("no round 0", () -> x.laneOf(0, 0, 0));
        CHECK.none("not in the field", () -> x.laneOf(0, 1, 2));
        HeatStadium nine = Games.race(0, 1, 2, 3, 4, 5, 6, 7, 0);
        nine.time(0, 0, 0, 100, false, 0);
        CHECK.none("not in the final", () -> nine.laneOf(0, 1, 1));
        CHECK.asks("in the final", () -> nine.laneOf(0, 1, 0), 4);
    }

    private static void timesShown() {
        HeatStadium x = Games.race(0, 1);
        CHECK.asks("measured 10001", () -> x.time(0, 1, 0, 10001, false, 0), 1001);
        CHECK.asks("resultOf", () -> x.resultOf(0, 0), 10001);
        CHECK.asks("measured 10000", () -> x.time(0, 1, 0, 10000, false, 0), 1000);
        CHECK.asks("measured 1", () -> x.time(0, 1, 0, 1, false, -99), 1);
        CHECK.asks("measured 999999", () -> x.time(0, 1, 0, 999999, false, 99), 100000);
        CHECK.asks("by hand 10001", () -> x.time(0, 1, 0, 10001, true, 0), 1034);
        CHECK.asks("resultOf by hand", () -> x.resultOf(0, 0), 10340);
        CHECK.asks("by hand 10000", () -> x.time(0, 1, 0, 10000, true, 0), 1024);
        CHECK.asks("by hand 999999", () -> x.time(0, 1, 0, 999999, true, 0), 100024);
        CHECK.asks("in place of an earlier one", () -> x.resultOf(0, 0), 1000240);
        x.athlete(3);
        CHECK.asks("for one who has not entered", () -> x.time(0, 0, 2, 5, false, 0), 1);
    }

    private static void wrongTimes() {
        HeatStadium x = Games.race(0, 1);
        x.event('t', 1, 1, 2);
        CHECK.index("no event", () -> x.time(2, 2, 0, 0, false, 100));
        CHECK.index("no athlete", () -> x.time(0, 2, 2, 0, false, 100));
        CHECK.argument("round 2", () -> x.time(0, 2, 0, 1, false, 0));
        CHECK.argument("round -1", () -> x.time(0, -1, 0, 1, false, 0));
        CHECK.argument("time 0", () -> x.time(0, 1, 0, 0, false, 0));
        CHECK.argument("time 1000000", () -> x.time(0, 1, 0, 1000000, false, 0));
        CHECK.argument("wind 100", () -> x.time(0, 1, 0, 1, false, 100));
        CHECK.argument("wind -100, of another kind", () -> x.time(1, 1, 0, 1, false, -100));
        CHECK.kind("of another kind", () -> x.time(1, 1, 0, 1, false, 0));
        x.close(1, true);
        CHECK.kind("closed, of another kind", () -> x.time(1, 1, 0, 1, false, 0));
        x.close(0, true);
        CHECK.state("closed", () -> x.time(0, 1, 0, 1, false, 0));
        CHECK.none("nothing was changed", () -> x.resultOf(0, 0));
    }

    private static void starts() {
        HeatStadium x = Games.race(0, 1);
        Games.times(x, 1, 200, 100);
        CHECK.asks("100 is none", () -> x.react(0, 1, 1, 100), false);
        CHECK.asks("999 is none", () -> x.react(0, 1, 1, 999), false);
        CHECK.asks("not out", () -> x.isOut(0, 1, 1), false);
        CHECK.asks("99 is false", () -> x.react(0, 1, 1, 99), true);
        CHECK.asks("out of this round", () -> x.isOut(0, 1, 1), true);
        CHECK.asks("not of the other", () -> x.isOut(0, 0, 1), false);
        CHECK.due("who is out has no place", Games.ranks(x, 0, 2), "1 -");
        CHECK.state("out of this round", () -> x.react(0, 1, 1, 500));
        CHECK.asks("0 is false", () -> x.react(0, 0, 1, 0), true);
    }

    private static void wrongStarts() {
        HeatStadium x = Games.race(0, 1);
        x.event('j', 1, 1, 2);
        CHECK.index("no event", () -> x.react(2, 2, 0, 1000));
        CHECK.index("no athlete", () -> x.react(0, 2, 2, 1000));
        CHECK.argument("round 2", () -> x.react(0, 2, 0, 1));
        CHECK.argument("reaction -1", () -> x.react(0, 1, 0, -1));
        CHECK.argument("reaction 1000, of another kind", () -> x.react(1, 1, 0, 1000));
        CHECK.kind("of another kind", () -> x.react(1, 1, 0, 1));
        x.close(0, true);
        CHECK.state("closed", () -> x.react(0, 1, 0, 1));
        CHECK.asks("nothing was changed", () -> x.isOut(0, 1, 0), false);
    }

    private static void puttingOut() {
        HeatStadium x = Games.race(0, 1);
        x.event('t', 1, 1, 2);
        CHECK.index("no event", () -> x.putOut(2, 2, 0));
        CHECK.index("no athlete", () -> x.putOut(0, 2, 2));
        CHECK.argument("round 2", () -> x.putOut(1, 2, 0));
        CHECK.kind("of another kind", () -> x.putOut(1, 1, 0));
        CHECK.asks("put out", () -> x.putOut(0, 1, 0), true);
        CHECK.asks("once more", () -> x.putOut(0, 1, 0), false);
        CHECK.asks("of the round 0", () -> x.putOut(0, 0, 0), true);
        x.close(0, true);
        CHECK.state("closed", () -> x.putOut(0, 1, 1));
        CHECK.asks("who is out of a closed event", () -> x.isOut(0, 1, 0), true);
        CHECK.asks("who is not", () -> x.isOut(0, 1, 1), false);
        CHECK.index("isOut of no event", () -> x.isOut(2, 2, 0));
        CHECK.index("isOut of no athlete", () -> x.isOut(0, 2, 2));
        CHECK.argument("isOut of the round 2", () -> x.isOut(1, 2, 0));
        CHECK.kind("isOut of another kind", () -> x.isOut(1, 0, 0));
    }

    private static void finalAlone() {
        HeatStadium x = Games.race(0, 1, 2);
        x.event('j', 1, 1, 2);
        x.time(0, 0, 2, 1, false, 0);
        x.putOut(0, 0, 1);
        CHECK.due("all of the field, in its order", Games.finalists(x, 0), "0 1 2");
        CHECK.none("marks of the round 0 count for nothing", () -> x.resultOf(0, 2));
        CHECK.index("inFinal of no event", () -> x.inFinal(2, 0));
        CHECK.kind("inFinal of another kind", () -> x.inFinal(1, 0));
        CHECK.none("inFinal(0, 3)", () -> x.inFinal(0, 3));
        CHECK.none("inFinal(0, -1)", () -> x.inFinal(0, -1));
    }

    private static void goingOn() {
        HeatStadium x = Games.race(0, 1, 2, 3, 4, 5, 6, 7, 0);
        Games.times(x, 0, 105, 102, 100, 101, 103, 106, 107, 104, 108);
        CHECK.due("firsts, seconds, others", Games.finalists(x, 0), "2 3 1 4 7 0 5 6");
        Games.times(x, 1, 300, 200, 200, 250, 0, 0, 0, 0, 1);
        x.putOut(0, 1, 3);
        CHECK.due("ranks of the final", Games.ranks(x, 0, 9), "3 1 1 - - - - - -");
        CHECK.none("a mark of who is not in the final", () -> x.resultOf(0, 8));
        HeatStadium slow = Games.race(0, 1, 2, 3, 4, 5, 6, 7, 0);
        Games.times(slow, 0, 900, 1, 2, 901, 950, 3, 4, 951, 5);
        CHECK.due("the first two of a slow heat go on", Games.finalists(slow, 0), "1 0 2 3 5 6 8 4");
    }

    private static void lots() {
        HeatStadium x = Games.race(0, 1, 2, 3, 4, 5, 6, 7, 0);
        Games.times(x, 0, 9, 9, 9, 9, 9, 9, 9, 9, 9);
        CHECK.due("lots of the event 0", Games.finalists(x, 0), "0 8 4 2 3 7 6 1");
        x.event('r', 500, 5, 24);
        for (int i = 0; i < 9; i++) {
            x.enter(1, i, 100 + i);
            x.time(1, 0, i, 9, false, 0);
        }
        CHECK.due("lots of the event 1", Games.finalists(x, 1), "2 0 6 4 1 5 8 3");
        Games.times(x, 1, 7, 7, 7, 7);
        CHECK.due("no lots in the final", Games.ranks(x, 0, 4), "1 1 1 1");
    }

    private static void goingOnOfFew() {
        HeatStadium x = Games.race(0, 1, 2, 3, 4, 5, 6, 7, 0);
        CHECK.due("nobody without marks", Games.finalists(x, 0), "");
        Games.times(x, 0, 0, 7, 6, 0, 0, 5, 4, 0, 0);
        CHECK.due("one heat alone", Games.finalists(x, 0), "6 5 2 1");
        x.putOut(0, 0, 6);
        CHECK.due("who is out does not go on", Games.finalists(x, 0), "5 2 1");
    }

    private static void finalAnew() {
        HeatStadium x = Games.race(0, 1, 2, 3, 4, 5, 6, 7, 0);
        Games.times(x, 0, 105, 102, 100, 101, 103, 106, 107, 104, 108);
        x.time(0, 1, 8, 50, false, 0);
        x.time(0, 1, 6, 60, false, 0);
        CHECK.due("ranks", Games.ranks(x, 0, 9), "- - - - - - 1 - -");
        x.time(0, 0, 8, 99, false, 0);
        CHECK.due("by a mark", Games.finalists(x, 0), "8 3 2 4 1 7 0 5");
        CHECK.due("ranks with the mark", Games.ranks(x, 0, 9), "- - - - - - - - 1");
        x.close(0, true);
        x.dope(1, true);
        CHECK.due("by the field, then without heats", Games.finalists(x, 0), "0 2 3 4 5 6 7 8");
        CHECK.due("ranks with the field", Games.ranks(x, 0, 9), "- - - - - - 2 - 1");
    }

    private static void finalWithThreeHeats() {
        HeatStadium x = seventeen();
        for (int i = 0; i < 17; i++) {
            x.time(0, 0, i, 100 + i, false, 0);
        }
        CHECK.due("three firsts, three seconds, two others", Games.finalists(x, 0), "0 1 2 3 4 5 6 7");
        x.time(0, 0, 16, 1, false, 0);
        CHECK.due("heat 1 with 16, 1, 4", Games.finalists(x, 0), "16 0 2 1 3 5 4 6");
    }
}
