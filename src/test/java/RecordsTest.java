/** Promises 25 to 27: records, who holds them, who shares them. */
public final class RecordsTest {
    private static final Check CHECK = new Check("RecordsTest");

    public static void main(String[] args) {
        none();
        wind();
        markedFirst();
        inPlace();
        bothRounds();
        roundsThatCount();
        outAndDoped();
        ofJumps();
        ofThrows();
        CHECK.finish();
    }

    private static void is(HeatStadium x, String which, int record, int holder, int sharers) {
        CHECK.asks(which + ": record", () -> x.record(0), record);
        CHECK.asks(which + ": holder", () -> x.holder(0), holder);
        CHECK.asks(which + ": sharers", () -> x.sharers(0), sharers);
    }

    private static void isNone(HeatStadium x, String which) {
        CHECK.none(which + ": record", () -> x.record(0));
        CHECK.none(which + ": holder", () -> x.holder(0));
        CHECK.asks(which + ": sharers", () -> x.sharers(0), 0);
    }

    private static void none() {
        HeatStadium x = Games.race(0, 1);
        isNone(x, "no mark");
        CHECK.index("record of no event", () -> x.record(1));
        CHECK.index("holder of no event", () -> x.holder(-1));
        CHECK.index("sharers of no event", () -> x.sharers(1));
    }

    private static void wind() {
        HeatStadium x = Games.race(0, 1, 2);
        x.time(0, 1, 0, 100, false, 21);
        isNone(x, "wind 21");
        CHECK.asks("but a result", () -> x.resultOf(0, 0), 100);
        x.time(0, 1, 1, 300, false, 20);
        is(x, "wind 20", 300, 1, 1);
        x.time(0, 1, 2, 200, false, -99);
        is(x, "wind -99", 200, 2, 1);
        x.time(0, 1, 1, 101, true, 0);
        is(x, "by hand", 200, 2, 1);
    }

    private static void markedFirst() {
        HeatStadium x = Games.race(0, 1, 2);
        x.time(0, 1, 2, 100, false, 0);
        x.time(0, 1, 0, 100, false, 0);
        x.time(0, 1, 1, 101, false, 0);
        is(x, "the first of two alike", 100, 2, 2);
        x.withdraw(0, 2, true);
        is(x, "the first of the field", 100, 0, 1);
    }

    private static void inPlace() {
        HeatStadium x = Games.race(0, 1);
        x.time(0, 1, 0, 100, false, 0);
        x.time(0, 1, 1, 100, false, 0);
        x.time(0, 1, 0, 100, false, 0);
        is(x, "told again, it is a later one", 100, 1, 2);
        x.time(0, 1, 1, 102, false, 0);
        is(x, "the earlier one is gone", 100, 0, 1);
    }

    private static void bothRounds() {
        HeatStadium x = Games.race(0, 1, 2, 3, 4, 5, 6, 7, 0);
        x.time(0, 0, 4, 90, false, 0);
        x.time(0, 0, 3, 91, false, 0);
        x.time(0, 1, 3, 90, false, 0);
        x.time(0, 1, 4, 90, false, 0);
        is(x, "one athlete counts once", 90, 4, 2);
        x.time(0, 0, 4, 95, false, 0);
        is(x, "the final's mark is left", 90, 3, 2);
        x.time(0, 0, 3, 80, false, 0);
        is(x, "in whatever round", 80, 3, 1);
    }

    private static void roundsThatCount() {
        HeatStadium x = Games.race(0, 1, 2, 3, 4, 5, 6, 7, 0);
        x.time(0, 1, 0, 50, false, 0);
        isNone(x, "not in the final");
        x.time(0, 0, 0, 60, false, 30);
        is(x, "in the final, and too much wind in the heat", 50, 0, 1);
        x.time(0, 0, 1, 40, false, 0);
        is(x, "of the heat", 40, 1, 1);
        x.withdraw(0, 8, true);
        is(x, "no round 0 with eight", 50, 0, 1);
    }

    private static void outAndDoped() {
        HeatStadium x = Games.race(0, 1);
        Games.times(x, 1, 10, 20);
        x.putOut(0, 1, 0);
        is(x, "out", 20, 1, 1);
        x.protest(0, 1, 0);
        x.decide(0, true);
        is(x, "upheld", 10, 0, 1);
        x.dope(0, true);
        is(x, "doped", 20, 1, 1);
        x.close(0, true);
        x.dope(1, true);
        isNone(x, "both doped");
    }

    private static void ofJumps() {
        HeatStadium x = Games.ofKind('j', 3);
        x.bar(0, 100);
        Games.jumps(x, 2, "o");
        Games.jumps(x, 0, "xo");
        Games.jumps(x, 1, "x-");
        is(x, "who cleared it first, whatever the failures", 100, 2, 2);
        x.bar(0, 110);
        isSame(x);
        Games.jumps(x, 1, "xo");
        is(x, "higher", 110, 1, 1);
        Games.jumps(x, 0, "o");
        is(x, "and shared", 110, 1, 2);
    }

    private static void isSame(HeatStadium x) {
        is(x, "a bar alone changes nothing", 100, 2, 2);
    }

    private static void ofThrows() {
        HeatStadium x = Games.ofKind('t', 9);
        x.put(0, 8, 0);
        isNone(x, "a failure");
        for (int i = 0; i < 8; i++) {
            Games.puts(x, i, 100 + i, 0, 0);
        }
        Games.puts(x, 8, 1, 2, 900);
        is(x, "a throw that does not count", 107, 7, 1);
        Games.puts(x, 0, 107, 107);
        is(x, "alike", 107, 7, 2);
        x.dope(7, true);
        is(x, "who goes on by the field now", 900, 8, 1);
        x.dope(7, false);
        x.withdraw(0, 7, true);
        x.withdraw(0, 8, true);
        is(x, "one shares with nobody", 107, 0, 1);
    }
}
