/** Promises 18, 19 and 20 for a throw: rounds, who goes on, ties by the next best. */
public final class ThrowsTest {
    private static final Check CHECK = new Check("ThrowsTest");

    public static void main(String[] args) {
        rounds();
        nextBest();
        goingOn();
        alikeWithTheEighth();
        failuresAlone();
        byTheField();
        CHECK.finish();
    }

    private static void rounds() {
        HeatStadium x = Games.ofKind('t', 1);
        x.event('r', 1, 1, 2);
        CHECK.index("no event", () -> x.put(2, 0, -1));
        CHECK.index("no athlete", () -> x.put(0, 1, -1));
        CHECK.argument("length -1", () -> x.put(0, 0, -1));
        CHECK.argument("length 10000, of another kind", () -> x.put(1, 0, 10000));
        CHECK.kind("of another kind", () -> x.put(1, 0, 1));
        for (int i = 1; i <= 6; i++) {
            int length = i == 2 ? 9999 : 0;
            CHECK.asks("round " + i, () -> x.put(0, 0, length), i);
        }
        CHECK.state("seventh", () -> x.put(0, 0, 1));
        CHECK.argument("seventh, out of range", () -> x.put(0, 0, 10000));
        CHECK.asks("result", () -> x.resultOf(0, 0), 9999);
        x.athlete(0);
        x.close(0, true);
        CHECK.state("closed", () -> x.put(0, 1, 1));
        x.close(0, false);
        CHECK.asks("nothing was changed", () -> x.put(0, 1, 1), 1);
    }

    private static void nextBest() {
        HeatStadium x = Games.ofKind('t', 5);
        Games.puts(x, 0, 500, 400, 0, 300);
        Games.puts(x, 1, 400, 500, 0, 0, 0, 300);
        Games.puts(x, 2, 500, 500);
        Games.puts(x, 3, 0, 0, 500, 400);
        CHECK.due("by the next best, and so on", Games.ranks(x, 0, 5), "2 2 1 4 -");
        Games.puts(x, 4, 501);
        CHECK.due("the best first", Games.ranks(x, 0, 5), "3 3 2 5 1");
        Games.puts(x, 3, 301);
        CHECK.due("the third best", Games.ranks(x, 0, 5), "4 4 2 3 1");
    }

    private static void goingOn() {
        HeatStadium x = Games.ofKind('t', 10);
        for (int i = 0; i < 10; i++) {
            Games.puts(x, i, 100 - i, 0, 0, 500 + i);
        }
        CHECK.due("eight go on", Games.ranks(x, 0, 10), "8 7 6 5 4 3 2 1 9 10");
        CHECK.asks("the later throw counts", () -> x.resultOf(0, 7), 507);
        CHECK.asks("or for nothing", () -> x.resultOf(0, 8), 92);
        x.withdraw(0, 0, true);
        CHECK.due("by the field now", Games.ranks(x, 0, 10), "- 8 7 6 5 4 3 2 1 9");
    }

    private static void alikeWithTheEighth() {
        HeatStadium x = Games.ofKind('t', 11);
        for (int i = 0; i < 7; i++) {
            Games.puts(x, i, 200, 0, 0);
        }
        Games.puts(x, 7, 50, 40, 30, 7);
        Games.puts(x, 8, 30, 50, 40, 8);
        Games.puts(x, 9, 50, 40, 29, 9999);
        Games.puts(x, 10, 40, 30, 50);
        CHECK.due("those alike in all three", Games.ranks(x, 0, 11), "1 1 1 1 1 1 1 9 8 11 10");
        CHECK.asks("not in two alone", () -> x.resultOf(0, 9), 50);
    }

    private static void failuresAlone() {
        HeatStadium x = Games.ofKind('t', 3);
        Games.puts(x, 0, 0, 0, 0, 700);
        Games.puts(x, 1, 0, 0, 1, 700);
        Games.puts(x, 2, 0, 0);
        CHECK.due("in the first three", Games.ranks(x, 0, 3), "- 1 -");
        CHECK.none("no result", () -> x.resultOf(0, 0));
        CHECK.asks("a result", () -> x.resultOf(0, 1), 700);
        Games.puts(x, 2, 9);
        CHECK.due("three throws are the first three", Games.ranks(x, 0, 3), "- 1 2");
    }

    private static void byTheField() {
        HeatStadium x = Games.withAthletes(0, 0);
        x.event('t', 500, 1, 2);
        x.enter(0, 0, 900);
        Games.puts(x, 0, 300);
        Games.puts(x, 1, 400);
        CHECK.due("who has not entered has no rank", Games.ranks(x, 0, 2), "1 -");
        x.enter(0, 1, 901);
        CHECK.due("the quota moved", Games.ranks(x, 0, 2), "- 1");
    }
}
