/** Promises 25 to 27, "Records": records, who holds them, who shares them. */
public final class RecordsTest {
    private static final Check CHECK = new Check("RecordsTest");

    public static void main(String[] args) {
        wind();
        whateverRound();
        roundsThatCount();
        markedFirst();
        markedFirstOfJumpsAndThrows();
        inPlace();
        bestThatCounts();
        bestOfJumps();
        bestOfThrows();
        ofTheField();
        sharers();
        refused();
        CHECK.finish();
    }

    private static void is(Run x, int record, int holder, int sharers) {
        x.gives("record 0", record).gives("holder 0", holder).gives("sharers 0", sharers);
    }

    private static void isNone(Run x) {
        x.none("record 0", "holder 0").gives("sharers 0", 0);
    }

    /** Nine in two heats: 0, 3, 4 and 7 in the heat 0, and 1, 2, 5, 6 and 8 in the heat 1. */
    private static Run nine() {
        return Run.race(CHECK, 0, 1, 2, 3, 4, 5, 6, 7, 0);
    }

    private static void wind() {
        CHECK.terms("with a wind of at most 20");
        isNone(Run.race(CHECK, 0).does("time 0 1 0 100 false 21").gives("resultOf 0 0", 100));
        isNone(Run.race(CHECK, 0).does("time 0 1 0 100 true 99").gives("rankOf 0 0", 1));
        is(Run.race(CHECK, 0).does("time 0 1 0 100 false 20"), 100, 0, 1);
        is(Run.race(CHECK, 0).does("time 0 1 0 100 false -99"), 100, 0, 1);
        is(nine().does("time 0 0 0 100 false 21", "time 0 0 1 101 false 20"), 101, 1, 1);
    }

    private static void whateverRound() {
        CHECK.terms("of a race in whatever round");
        Run x = nine().times(0, 0, 90).times(0, 1, 91);
        is(x, 90, 0, 1);
        x.times(0, 1, 89);
        is(x, 89, 0, 1);
        x.does("time 0 1 0 88 false 21");
        is(x, 90, 0, 1);
        x.does("putOut 0 1 0");
        is(x, 90, 0, 1);
    }

    private static void roundsThatCount() {
        CHECK.terms("The record of an event is the best result that counts");
        Run x = nine().does("time 0 1 0 50 false 0");
        isNone(x);
        x.does("time 0 0 0 60 false 30");
        is(x, 50, 0, 1);
        x.does("time 0 0 1 40 false 0");
        is(x, 40, 1, 1);
        x.does("withdraw 0 8 true");
        is(x, 50, 0, 1);
        x.does("putOut 0 1 0");
        isNone(x);
        x.does("protest 0 1 0", "decide 0 true");
        is(x, 50, 0, 1);
    }

    private static void markedFirst() {
        CHECK.terms("of several alike, the one that was marked first holds it, and others share it");
        Run x = Run.race(CHECK, 0, 1, 2).does("time 0 1 2 100 false 0", "time 0 1 0 100 false 0", "time 0 1 1 101 false 0");
        is(x, 100, 2, 2);
        x.does("withdraw 0 2 true");
        is(x, 100, 0, 1);
        x.does("withdraw 0 2 false");
        is(x, 100, 2, 2);
        Run third = Run.race(CHECK, 0, 1, 2).does("time 0 1 1 100 false 0", "time 0 1 2 100 false 0", "time 0 1 0 100 false 0");
        is(third, 100, 1, 3);
        third.does("withdraw 0 1 true");
        is(third, 100, 2, 2);
        Run rounds = nine().does("time 0 0 4 90 false 0", "time 0 0 3 91 false 0", "time 0 1 3 90 false 0");
        is(rounds, 90, 4, 2);
        rounds.does("time 0 1 4 90 false 0", "time 0 0 4 95 false 0");
        is(rounds, 90, 3, 2);
        is(Run.race(CHECK, 0, 1).does("time 0 1 1 340 false 0", "time 0 1 0 1 true 0"), 340, 1, 2);
    }

    private static void markedFirstOfJumpsAndThrows() {
        CHECK.terms("of several alike, the one that was marked first holds it");
        Run jumps = Run.of(CHECK, 'j', 3).does("bar 0 100").jumps(0, 2, "xo").jumps(0, 0, "o").jumps(0, 1, "-");
        is(jumps, 100, 2, 2);
        jumps.does("bar 0 110");
        is(jumps, 100, 2, 2);
        jumps.jumps(0, 1, "xxo");
        is(jumps, 110, 1, 1);
        jumps.jumps(0, 0, "o");
        is(jumps, 110, 1, 2);
        Run puts = Run.of(CHECK, 't', 3).puts(0, 2, 50).puts(0, 1, 60).puts(0, 0, 60).puts(0, 2, 60);
        is(puts, 60, 1, 3);
        puts.does("dope 1 true");
        is(puts, 60, 0, 2);
        puts.puts(0, 2, 61);
        is(puts, 61, 2, 1);
    }

    private static void inPlace() {
        CHECK.terms("a mark in place of an earlier one is marked as it is told.");
        Run x = Run.race(CHECK, 0, 1).does("time 0 1 0 100 false 0", "time 0 1 1 100 false 0", "time 0 1 0 100 false 0");
        is(x, 100, 1, 2);
        x.does("time 0 1 1 102 false 0");
        is(x, 100, 0, 1);
        x.does("time 0 1 1 100 false 0");
        is(x, 100, 0, 2);
        // an upheld protest is no mark: the time keeps its place
        x.does("putOut 0 1 0", "protest 0 1 0");
        is(x, 100, 1, 1);
        x.does("decide 0 true");
        is(x, 100, 0, 2);
    }

    private static void bestThatCounts() {
        CHECK.promise(25, "Returns the record of an event.");
        CHECK.promise(25, "Returns the result.");
        Run x = Run.race(CHECK, 0, 1, 2).times(0, 1, 30, 20, 25);
        is(x, 20, 1, 1);
        CHECK.promise(26, "Returns who holds the record.");
        CHECK.promise(26, "Returns the athlete.");
        x.does("react 0 1 1 99");
        is(x, 25, 2, 1);
        x.times(0, 1, 24);
        is(x, 24, 0, 1);
        x.does("close 0 true");
        is(x, 24, 0, 1);
    }

    private static void bestOfJumps() {
        CHECK.terms("The record of an event is the best result that counts");
        Run x = Run.of(CHECK, 'j', 2).does("bar 0 5").jumps(0, 0, "x").jumps(0, 1, "-");
        isNone(x);
        x.jumps(0, 0, "o");
        is(x, 5, 0, 1);
        x.does("bar 0 6").jumps(0, 0, "o").jumps(0, 1, "xo");
        is(x, 6, 0, 2);
        x.does("withdraw 0 0 true");
        is(x, 6, 1, 1);
    }

    private static void bestOfThrows() {
        CHECK.terms("The record of an event is the best result that counts");
        Run x = Run.of(CHECK, 't', 9).puts(0, 8, 0);
        isNone(x);
        is(Run.of(CHECK, 't', 1).puts(0, 0, 0, 1), 1, 0, 1);
        for (int i = 0; i < 8; i++) {
            x.puts(0, i, 100 + i, 0, 0);
        }
        x.puts(0, 8, 1, 2, 900);
        is(x, 107, 7, 1);
        x.puts(0, 0, 107, 107);
        is(x, 107, 7, 2);
        x.does("dope 7 true");
        is(x, 900, 8, 1);
        x.does("dope 7 false", "withdraw 0 7 true", "withdraw 0 8 true");
        is(x, 107, 0, 1);
    }

    private static void ofTheField() {
        CHECK.terms("The record of an event is the best result that counts, of the field");
        Run x = Run.race(CHECK, 0, 1).does("athlete 2").times(0, 1, 20, 10, 5);
        is(x, 10, 1, 1);
        x.does("enter 0 2 500");
        is(x, 5, 2, 1);
        x.does("enter 0 2 501");
        is(x, 10, 1, 1);
        x.does("close 0 true", "dope 1 true");
        is(x, 20, 0, 1);
        x.does("dope 0 true");
        isNone(x);
        x.does("dope 1 false");
        is(x, 10, 1, 1);
    }

    private static void sharers() {
        CHECK.promise(27, "Returns how many share the record, the holder included.");
        CHECK.promise(27, "Returns how many athletes, 0 if there is none.");
        isNone(Run.race(CHECK));
        isNone(Run.race(CHECK, 0));
        Run x = nine().times(0, 0, 9, 9, 9, 9, 9, 9, 9, 9, 9);
        is(x, 9, 0, 9);
        x.times(0, 1, 9, 9, 9);
        is(x, 9, 0, 9);
        x.times(0, 0, 8);
        is(x, 8, 0, 1);
        Run puts = Run.of(CHECK, 't', 24);
        for (int i = 23; i >= 0; i--) {
            puts.puts(0, i, 77, 77, 77);
        }
        is(puts, 77, 23, 24);
    }

    private static void refused() {
        Run x = Run.race(CHECK, 0).does("event j 1 1 2", "event t 1 1 2");
        CHECK.promise(25, "Throws IndexOutOfBoundsException if there is no such event");
        x.index("record 3", "record -1", "record " + Integer.MIN_VALUE, "record " + Integer.MAX_VALUE);
        CHECK.promise(25, "Throws NoSuchElementException if there is none");
        x.none("record 0", "record 1", "record 2");
        CHECK.promise(26, "Throws IndexOutOfBoundsException if there is no such event");
        x.index("holder 3", "holder -1", "holder " + Integer.MIN_VALUE, "holder " + Integer.MAX_VALUE);
        CHECK.promise(26, "Throws NoSuchElementException if there is none");
        x.none("holder 0", "holder 1", "holder 2");
        CHECK.promise(27, "Throws IndexOutOfBoundsException if there is no such event");
        x.index("sharers 3", "sharers -1", "sharers " + Integer.MIN_VALUE, "sharers " + Integer.MAX_VALUE);
        x.row("sharers #", 3, "0 0 0");
    }
}
