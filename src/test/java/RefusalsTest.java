import java.util.StringJoiner;

/** "Exceptions": a call that throws changes nothing, and of several exceptions the one listed first is thrown. */
public final class RefusalsTest {
    private static final Check CHECK = new Check("RefusalsTest");

    /** Each call with several causes to be refused, or one alone, and the exception that is due. */
    private static final String[][] REFUSED = {
        {"IllegalArgumentException", "athlete 8", "athlete -1"},
        {"IllegalArgumentException", "event x 1 1 2", "event r 0 1 2", "event j 1 6 2", "event t 1 1 25"},
        {"IndexOutOfBoundsException", "enter 5 0 0", "enter 0 4 0", "enter 5 4 0", "enter 1 4 0", "enter 1 -1 5"},
        {"IllegalArgumentException", "enter 1 0 0", "enter 1 3 1000000", "enter 0 3 0"},
        {"IllegalStateException", "enter 1 0 5", "enter 1 3 5"},
        {"IndexOutOfBoundsException", "withdraw 5 3 true", "withdraw 1 4 true", "withdraw 0 -1 true"},
        {"NoSuchElementException", "withdraw 1 3 true", "withdraw 0 3 true"},
        {"IllegalStateException", "withdraw 1 0 true", "withdraw 1 1 false"},
        {"IndexOutOfBoundsException", "field 5", "inField 5 9", "inField -1 -1"},
        {"NoSuchElementException", "inField 0 3", "inField 0 -1"},
        {"IllegalArgumentException", "pass 0", "pass 10000", "pass -1"},
        {"IndexOutOfBoundsException", "heatOf 5 0", "heatOf 2 4", "heatOf 0 4"},
        {"UnsupportedOperationException", "heatOf 2 3", "heatOf 3 3"},
        {"NoSuchElementException", "heatOf 0 3", "heatOf 1 3"},
        {"IndexOutOfBoundsException", "laneOf 5 2 0", "laneOf 2 2 4", "laneOf 0 0 4"},
        {"IllegalArgumentException", "laneOf 2 2 3", "laneOf 0 2 3", "laneOf 0 -1 0"},
        {"UnsupportedOperationException", "laneOf 2 1 3", "laneOf 3 0 3"},
        {"NoSuchElementException", "laneOf 0 0 0", "laneOf 0 1 3"},
        {"IndexOutOfBoundsException", "time 5 2 0 0 false 100", "time 2 2 4 0 false 100", "time 1 1 4 5 false 0"},
        {"IndexOutOfBoundsException", "time 0 1 -1 5 false 0", "time -1 1 0 5 false 0"},
        {"IllegalArgumentException", "time 2 2 0 5 false 0", "time 1 1 0 0 false 0", "time 4 1 0 5 false 100"},
        {"IllegalArgumentException", "time 0 1 0 5 true -100", "time 0 1 0 1000000 true 0", "time 0 2 0 5 true 0"},
        {"UnsupportedOperationException", "time 4 1 0 5 false 0", "time 2 1 0 5 false 0", "time 3 0 0 5 false 0"},
        {"IllegalStateException", "time 1 1 0 5 false 0", "time 1 0 1 5 true 0"},
        {"IndexOutOfBoundsException", "react 5 2 0 1000", "react 2 2 4 1000", "react 1 1 4 5", "react 0 1 -1 5"},
        {"IllegalArgumentException", "react 2 2 0 5", "react 1 1 0 1000", "react 4 1 0 -1", "react 0 1 2 1000", "react 0 2 2 5"},
        {"UnsupportedOperationException", "react 4 1 0 5", "react 2 1 0 5", "react 3 0 0 5"},
        {"IllegalStateException", "react 1 1 0 5", "react 1 1 0 500", "react 0 1 2 500", "react 0 1 2 5"},
        {"IndexOutOfBoundsException", "putOut 5 2 0", "putOut 2 2 4", "putOut 1 1 4", "putOut 0 1 -1"},
        {"IllegalArgumentException", "putOut 2 2 0", "putOut 1 2 0", "putOut 0 -1 0"},
        {"UnsupportedOperationException", "putOut 4 1 0", "putOut 2 1 0", "putOut 3 0 0"},
        {"IllegalStateException", "putOut 1 1 0", "putOut 1 0 1"},
        {"IndexOutOfBoundsException", "isOut 5 2 0", "isOut 2 2 4", "inFinal 5 9", "inFinal -1 -1"},
        {"IllegalArgumentException", "isOut 2 2 0", "isOut 0 -1 0"},
        {"UnsupportedOperationException", "isOut 2 1 0", "inFinal 2 9", "inFinal 3 0"},
        {"NoSuchElementException", "inFinal 0 3", "inFinal 0 -1"},
        {"IndexOutOfBoundsException", "bar 5 0", "bar -1 1000"},
        {"IllegalArgumentException", "bar 0 0", "bar 2 110", "bar 4 100", "bar 1 1000"},
        {"UnsupportedOperationException", "bar 0 1", "bar 1 1", "bar 3 999"},
        {"IllegalStateException", "bar 4 101", "bar 4 999"},
        {"IndexOutOfBoundsException", "jump 5 0 q", "jump 0 4 q", "jump 4 4 o", "jump 2 -1 o"},
        {"IllegalArgumentException", "jump 0 0 q", "jump 4 0 q", "jump 2 0 q", "jump 2 1 O"},
        {"UnsupportedOperationException", "jump 0 0 o", "jump 1 0 x", "jump 3 1 -"},
        {"IllegalStateException", "jump 4 0 o", "jump 2 0 o", "jump 2 0 x", "jump 2 1 o", "jump 2 1 -"},
        {"IndexOutOfBoundsException", "put 5 0 -1", "put 0 4 -1", "put 3 4 5", "put 3 -1 5"},
        {"IllegalArgumentException", "put 0 0 -1", "put 1 0 10000", "put 3 0 -1", "put 3 1 10000"},
        {"UnsupportedOperationException", "put 0 0 5", "put 1 0 5", "put 4 0 5"},
        {"IllegalStateException", "put 3 0 5", "put 3 0 0"},
        {"IndexOutOfBoundsException", "rankOf 5 0", "rankOf 0 4", "resultOf 5 0", "resultOf 0 -1"},
        {"NoSuchElementException", "rankOf 0 2", "rankOf 2 1", "resultOf 0 3", "resultOf 3 2"},
        {"IndexOutOfBoundsException", "protest 5 2 0", "protest 2 2 4", "protest 0 1 4", "protest 0 1 -1"},
        {"IllegalArgumentException", "protest 2 2 0", "protest 0 2 2", "protest 0 -1 0"},
        {"UnsupportedOperationException", "protest 2 1 0", "protest 3 0 0"},
        {"IllegalStateException", "protest 0 0 0", "protest 0 1 2", "protest 0 0 2"},
        {"IndexOutOfBoundsException", "decide 2 true", "decide -1 false"},
        {"IndexOutOfBoundsException", "dope 4 true", "dope -1 false", "close 5 true", "close -1 true"},
        {"IllegalStateException", "decide 0 true", "decide 0 false"},
        {"IndexOutOfBoundsException", "record 5", "holder 5", "sharers 5", "record -1", "holder -1", "sharers -1"},
        {"NoSuchElementException", "record 4", "holder 4"},
        {"IllegalArgumentException", "medals 8 0", "medals 0 4", "inTable 8 true", "points 8", "shareBits 8"},
    };

    public static void main(String[] args) {
        String before = known(games());
        for (String[] row : REFUSED) {
            for (int i = 1; i < row.length; i++) {
                CHECK.terms("If several exceptions apply, the exception listed first is thrown.");
                Run x = games().refuses(row[0], row[i]);
                CHECK.terms("A method that throws an exception changes nothing.");
                CHECK.due("all answers after " + row[i], known(x), before);
            }
        }
        withoutMedals();
        full();
        CHECK.finish();
    }

    /**
     * Four athletes, of whom 3 has entered nothing. Two races, 1 is closed; a jump 2, in which 0 is over and 1
     * has three failures; a throw 3, in which 0 has six throws; and a closed jump 4 with the bar at 100.
     * In the race 0 the athlete 2 is out of both rounds: the protest 0 was decided, the protest 1 was not,
     * and it is too late for the round 0.
     */
    private static Run games() {
        Run x = new Run(CHECK).athletes(0, 1, 0, 1).does("event r 500 5 24", "event r 500 5 24", "event j 500 5 24",
                "event t 500 5 24", "event j 500 5 24");
        x.enters(0, 100, 101, 102).enters(1, 100, 101).enters(2, 900, 901).enters(3, 900, 901, 902).enters(4, 900);
        x.times(0, 1, 30, 40, 20).times(1, 1, 50, 60).does("putOut 0 0 2", "pass 31", "putOut 0 1 2", "putOut 0 1 1");
        x.gives("protest 0 1 2", 0).gives("decide 0 false", 100).gives("protest 0 1 1", 1);
        x.does("bar 2 100", "bar 2 110", "bar 4 100").jumps(2, 0, "xo").jumps(2, 1, "xxx");
        x.puts(3, 0, 5, 4, 3, 2, 1, 0).puts(3, 1, 5);
        return x.does("close 1 true", "close 4 true", "withdraw 0 0 true", "withdraw 0 0 false");
    }

    /** What can be asked, and then what can be told only by going on. */
    private static String known(Run x) {
        StringJoiner text = new StringJoiner("\n");
        text.add(x.row("field #", 5));
        for (int event = 0; event < 5; event++) {
            text.add(x.row("inField " + event + " #", 4)).add(x.row("rankOf " + event + " #", 4));
            text.add(x.row("resultOf " + event + " #", 4));
        }
        for (int race = 0; race < 2; race++) {
            text.add(x.row("heatOf " + race + " #", 4)).add(x.row("laneOf " + race + " 1 #", 4));
            text.add(x.row("isOut " + race + " 0 #", 4)).add(x.row("isOut " + race + " 1 #", 4));
            text.add(x.row("inFinal " + race + " #", 4));
        }
        text.add(x.row("record #", 5)).add(x.row("holder #", 5)).add(x.row("sharers #", 5));
        for (int nation = 0; nation < 2; nation++) {
            text.add(x.row("medals " + nation + " #", 4));
        }
        text.add(x.row("inTable # false", 8)).add(x.row("inTable # true", 8)).add(x.row("points #", 8));
        text.add(x.row("shareBits #", 8)).add(x.ask("isTrue"));
        text.add(x.row("close # false", 5)).add(x.row("withdraw 0 # false", 3)).add(x.row("withdraw 1 # false", 2));
        text.add(x.row("enter # 0 100", 5)).add(x.row("dope # false", 4)).add(x.ask("athlete 0"));
        text.add(x.ask("decide 1 false")).add(x.row("time 1 1 # 5 false 0", 4)).add(x.row("put 3 # 1", 4));
        text.add(x.row("jump 2 # x", 4)).add(x.row("jump 4 # x", 4)).add(x.ask("bar 2 111")).add(x.ask("bar 4 101"));
        text.add(x.row("react 0 1 # 500", 4)).add(x.row("putOut 0 0 #", 4)).add(x.row("protest 0 0 #", 4));
        return text.add(x.row("resultOf # 0", 5)).add(x.row("record #", 5)).add(x.ask("pass 1")).toString();
    }

    private static void withoutMedals() {
        CHECK.terms("If several exceptions apply, the exception listed first is thrown.");
        new Run(CHECK).argument("shareBits 8").refuses("ArithmeticException", "shareBits 0");
    }

    private static void full() {
        CHECK.terms("If several exceptions apply, the exception listed first is thrown.");
        Run x = Run.of(CHECK, 'j', 30).argument("athlete 8").state("athlete 0");
        x.does("event r 1 1 2", "event r 1 1 2", "event r 1 1 2", "event r 1 1 2");
        x.argument("event r 1 1 1").state("event r 1 1 2");
        for (int height = 1; height <= 10; height++) {
            x.does("bar 0 " + height);
        }
        x.argument("bar 0 10").state("bar 0 11").does("close 0 true").argument("bar 0 10").state("bar 0 11");
        CHECK.terms("A method that throws an exception changes nothing.");
        x.gives("dope 29 false", false).index("dope 30 true").gives("field 4", 0).index("field 5");
        x.does("close 0 false", "jump 0 0 o").gives("resultOf 0 0", 10);
    }
}
