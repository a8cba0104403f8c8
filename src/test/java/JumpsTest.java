/** Promises 16, 17, 19 and 20 for a jump: bars, trials, countback. */
public final class JumpsTest {
    private static final Check CHECK = new Check("JumpsTest");

    public static void main(String[] args) {
        bars();
        trials();
        wrongTrials();
        threeInARow();
        ranks();
        countback();
        fullField();
        CHECK.finish();
    }

    private static void bars() {
        HeatStadium x = Games.ofKind('j', 1);
        x.event('t', 1, 1, 2);
        CHECK.index("no event", () -> x.bar(2, 0));
        CHECK.argument("height 0", () -> x.bar(0, 0));
        CHECK.argument("height 1000", () -> x.bar(0, 1000));
        CHECK.argument("height 0 of another kind", () -> x.bar(1, 0));
        CHECK.kind("of another kind", () -> x.bar(1, 1));
        CHECK.asks("height 1", () -> x.bar(0, 1), 1);
        CHECK.argument("alike", () -> x.bar(0, 1));
        x.close(0, true);
        CHECK.state("closed", () -> x.bar(0, 2));
        CHECK.argument("closed, and out of range", () -> x.bar(0, 1));
        x.close(0, false);
        for (int i = 2; i <= 10; i++) {
            int height = i * 10;
            CHECK.asks("height " + i, () -> x.bar(0, height), i);
        }
        CHECK.state("eleven", () -> x.bar(0, 101));
        CHECK.argument("eleven, and out of range", () -> x.bar(0, 100));
        CHECK.asks("x at the tenth", () -> x.jump(0, 0, 'x'), 1);
        CHECK.asks("o at the tenth", () -> x.jump(0, 0, 'o'), 0);
        CHECK.asks("result of the tenth", () -> x.resultOf(0, 0), 100);
        HeatStadium top = Games.ofKind('j', 1);
        CHECK.asks("height 999", () -> top.bar(0, 999), 1);
        CHECK.argument("nothing above", () -> top.bar(0, 999));
    }

    private static void trials() {
        HeatStadium x = Games.ofKind('j', 2);
        CHECK.state("no bar", () -> x.jump(0, 0, 'o'));
        x.bar(0, 100);
        CHECK.asks("x", () -> x.jump(0, 0, 'x'), 1);
        CHECK.asks("xx", () -> x.jump(0, 0, 'x'), 2);
        CHECK.asks("xxo", () -> x.jump(0, 0, 'o'), 0);
        CHECK.state("over", () -> x.jump(0, 0, 'x'));
        CHECK.asks("x of another", () -> x.jump(0, 1, 'x'), 1);
        CHECK.asks("x-", () -> x.jump(0, 1, '-'), 1);
        CHECK.state("passed", () -> x.jump(0, 1, 'o'));
        x.bar(0, 110);
        CHECK.asks("o", () -> x.jump(0, 1, 'o'), 0);
        CHECK.asks("x at the next", () -> x.jump(0, 0, 'x'), 1);
        x.athlete(3);
        CHECK.asks("one who has not entered", () -> x.jump(0, 2, 'o'), 0);
        CHECK.none("has no result", () -> x.resultOf(0, 2));
        x.enter(0, 2, 600);
        CHECK.asks("but has it as soon as in the field", () -> x.resultOf(0, 2), 110);
    }

    private static void wrongTrials() {
        HeatStadium x = Games.ofKind('j', 1);
        x.event('r', 1, 1, 2);
        x.bar(0, 100);
        CHECK.index("no event", () -> x.jump(2, 0, 'q'));
        CHECK.index("no athlete", () -> x.jump(0, 1, 'q'));
        CHECK.argument("trial O", () -> x.jump(0, 0, 'O'));
        CHECK.argument("trial 0 of another kind", () -> x.jump(1, 0, (char) 0));
        CHECK.kind("of another kind", () -> x.jump(1, 0, 'o'));
        x.close(0, true);
        CHECK.state("closed", () -> x.jump(0, 0, 'o'));
        CHECK.argument("closed, no such trial", () -> x.jump(0, 0, 'X'));
        CHECK.none("nothing was changed", () -> x.resultOf(0, 0));
    }

    private static void threeInARow() {
        HeatStadium x = Games.ofKind('j', 3);
        x.bar(0, 100);
        Games.jumps(x, 0, "x-");
        Games.jumps(x, 1, "xxo");
        Games.jumps(x, 2, "xx");
        x.bar(0, 110);
        Games.jumps(x, 0, "x-");
        CHECK.asks("two after over", () -> x.jump(0, 1, 'x'), 1);
        CHECK.asks("three, without a pass between", () -> x.jump(0, 2, 'x'), 3);
        x.bar(0, 120);
        CHECK.asks("three over whatever heights", () -> x.jump(0, 0, 'x'), 3);
        CHECK.state("none at this height", () -> x.jump(0, 0, '-'));
        x.bar(0, 130);
        CHECK.state("none at all", () -> x.jump(0, 0, 'o'));
        CHECK.asks("the other goes on", () -> x.jump(0, 1, 'o'), 0);
    }

    private static void ranks() {
        HeatStadium x = Games.ofKind('j', 3);
        x.bar(0, 100);
        Games.jumps(x, 0, "o");
        Games.jumps(x, 1, "o");
        Games.jumps(x, 2, "xxx");
        x.bar(0, 110);
        Games.jumps(x, 1, "xxo");
        CHECK.due("by heights", Games.ranks(x, 0, 3), "2 1 -");
        CHECK.asks("result of 1", () -> x.resultOf(0, 1), 110);
        CHECK.asks("result of 0", () -> x.resultOf(0, 0), 100);
        CHECK.none("who cleared nothing has none", () -> x.resultOf(0, 2));
        CHECK.index("rankOf no event", () -> x.rankOf(1, 0));
        CHECK.index("rankOf no athlete", () -> x.rankOf(0, 3));
        CHECK.index("resultOf no event", () -> x.resultOf(-1, 0));
        CHECK.index("resultOf no athlete", () -> x.resultOf(0, -1));
        x.withdraw(0, 1, true);
        CHECK.due("by the field", Games.ranks(x, 0, 3), "1 - -");
    }

    private static void countback() {
        HeatStadium x = Games.ofKind('j', 6);
        x.bar(0, 100);
        String[] first = {"xo", "o", "xxo", "x-", "xo", "o"};
        for (int i = 0; i < 6; i++) {
            Games.jumps(x, i, first[i]);
        }
        x.bar(0, 110);
        String[] second = {"xo", "xxo", "xo", "xo", "xo", "-"};
        for (int i = 0; i < 6; i++) {
            Games.jumps(x, i, second[i]);
        }
        x.bar(0, 120);
        Games.jumps(x, 0, "xx");
        Games.jumps(x, 4, "-");
        CHECK.due("failures at that height, then in all up to it, not above",
                Games.ranks(x, 0, 6), "1 5 4 1 1 6");
        x.bar(0, 130);
        Games.jumps(x, 5, "xxo");
        CHECK.due("heights first", Games.ranks(x, 0, 6), "2 6 5 2 2 1");
    }

    private static void fullField() {
        HeatStadium x = Games.ofKind('j', 30);
        x.bar(0, 100);
        for (int i = 0; i < 30; i++) {
            Games.jumps(x, i, i < 20 ? "xo" : "o");
        }
        CHECK.asks("the best of 24", () -> x.rankOf(0, 20), 1);
        CHECK.asks("the others of 24", () -> x.rankOf(0, 0), 5);
        CHECK.none("not in the field", () -> x.rankOf(0, 24));
    }
}
