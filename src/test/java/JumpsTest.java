/** Promises 16 and 17, "Jumps": bars, trials, failures in a row, results, countback. */
public final class JumpsTest {
    private static final Check CHECK = new Check("JumpsTest");
    private static final int LEAST = Integer.MIN_VALUE;
    private static final int MOST = Integer.MAX_VALUE;

    public static void main(String[] args) {
        heights();
        tenHeights();
        barsRefused();
        trials();
        overOrPassed();
        threeInARow();
        overWhateverHeights();
        trialsAtTheBar();
        jumpsRefused();
        results();
        countback();
        CHECK.finish();
    }

    private static Run jump(int count) {
        return Run.of(CHECK, 'j', count);
    }

    private static void heights() {
        CHECK.promise(16, "height: the height, 1 to 999, greater than that before");
        CHECK.terms("The bar goes over heights that rise");
        jump(0).does("bar 0 1", "bar 0 2", "bar 0 999");
        jump(0).argument("bar 0 0", "bar 0 -1", "bar 0 1000", "bar 0 " + LEAST, "bar 0 " + MOST).gives("bar 0 1", 1);
        CHECK.promise(16, "Throws IllegalArgumentException if it is out of range");
        jump(0).does("bar 0 500").argument("bar 0 500", "bar 0 499", "bar 0 1").gives("bar 0 501", 2);
        jump(0).does("bar 0 999").argument("bar 0 999", "bar 0 1000", "bar 0 1");
        new Run(CHECK).does("event j 1 1 2", "event j 1 1 2", "bar 0 500").gives("bar 1 1", 1);
    }

    private static void tenHeights() {
        CHECK.terms("The bar goes over heights that rise, at most 10.");
        CHECK.promise(16, "Puts the bar to a height.");
        CHECK.promise(16, "Returns how many heights there were.");
        Run x = jump(1);
        for (int i = 1; i <= 10; i++) {
            x.gives("bar 0 " + i * 50, i);
        }
        CHECK.promise(16, "Throws IllegalStateException if it is closed, or there were 10");
        x.state("bar 0 501", "bar 0 999").argument("bar 0 500", "bar 0 1000");
        x.gives("jump 0 0 x", 1).gives("jump 0 0 o", 0).gives("resultOf 0 0", 500).state("jump 0 0 o");
    }

    private static void barsRefused() {
        CHECK.promise(16, "Throws IndexOutOfBoundsException if there is no such event");
        Run x = new Run(CHECK).index("bar 0 1").does("event j 1 1 2", "event t 1 1 2", "event r 1 1 2");
        x.index("bar 3 1", "bar -1 1", "bar 3 0", "bar " + LEAST + " 1");
        CHECK.promise(16, "Throws UnsupportedOperationException if the event is of another kind");
        x.kind("bar 1 1", "bar 2 999").argument("bar 1 0", "bar 2 1000");
        CHECK.promise(16, "Throws IllegalStateException if it is closed, or there were 10");
        x.does("bar 0 5", "close 0 true", "close 1 true").state("bar 0 6").argument("bar 0 5").kind("bar 1 1");
        x.does("close 0 false").gives("bar 0 6", 2);
    }

    private static void trials() {
        CHECK.promise(17, "trial: 'o', 'x' or '-'");
        jump(3).does("bar 0 1", "jump 0 0 o", "jump 0 1 x", "jump 0 2 -");
        CHECK.promise(17, "Throws IllegalArgumentException if there is no such trial");
        jump(1).does("bar 0 1").argument("jump 0 0 O", "jump 0 0 X", "jump 0 0 0", "jump 0 0 _", "jump 0 0 n", "jump 0 0 p",
                "jump 0 0 w", "jump 0 0 y", "jump 0 0 ,", "jump 0 0 .", "jump 0 0 00", "jump 0 0 65535");
        CHECK.promise(17, "Marks a trial at the height at which the bar is.");
        CHECK.promise(17, "Returns how many failures in a row the athlete has then.");
        Run x = jump(2).does("bar 0 100").gives("jump 0 0 x", 1).gives("jump 0 1 x", 1).gives("jump 0 0 x", 2);
        x.gives("jump 0 0 o", 0).gives("jump 0 1 -", 1).gives("resultOf 0 0", 100).none("resultOf 0 1");
        x.does("bar 0 110").gives("jump 0 0 -", 0).gives("jump 0 1 x", 2).gives("jump 0 1 o", 0);
        x.row("resultOf 0 #", 2, "100 110");
    }

    private static void overOrPassed() {
        CHECK.terms("At each height, an athlete has trials, at most 3, each 'o' over, 'x' not, or '-' passed");
        Run x = jump(6).does("bar 0 100").jumps(0, 0, "xxx").jumps(0, 1, "xxo").jumps(0, 2, "xx-");
        x.state("jump 0 0 o", "jump 0 0 x", "jump 0 0 -", "jump 0 1 o", "jump 0 2 o");
        CHECK.terms("one who was over, passed, or has 3 failures in a row, over whatever heights,"
                + " has no further trial there");
        x.jumps(0, 3, "o").state("jump 0 3 o", "jump 0 3 x", "jump 0 3 -");
        x.jumps(0, 4, "-").state("jump 0 4 o", "jump 0 4 x", "jump 0 4 -").argument("jump 0 4 q");
        x.jumps(0, 5, "x").does("bar 0 110").jumps(0, 3, "x").jumps(0, 4, "o").jumps(0, 5, "xo").jumps(0, 1, "-");
        x.state("jump 0 4 x", "jump 0 5 x", "jump 0 1 o").gives("jump 0 3 x", 2);
    }

    private static void threeInARow() {
        CHECK.terms("with 3 failures in a row, none at all.");
        Run x = jump(2).does("bar 0 100").gives("jump 0 0 x", 1).gives("jump 0 0 x", 2).gives("jump 0 0 x", 3);
        x.state("jump 0 0 o").does("bar 0 110").state("jump 0 0 o", "jump 0 0 x", "jump 0 0 -");
        x.does("bar 0 120").state("jump 0 0 o").gives("jump 0 1 o", 0);
        CHECK.promise(17, "Throws IllegalStateException if it is closed, there is no bar,"
                + " or the athlete has no further trial");
        x.none("rankOf 0 0").gives("rankOf 0 1", 1);
    }

    private static void overWhateverHeights() {
        CHECK.terms("3 failures in a row, over whatever heights");
        Run x = jump(4).does("bar 0 100").jumps(0, 0, "x-").jumps(0, 1, "xxo").jumps(0, 2, "xx").jumps(0, 3, "xx-");
        x.does("bar 0 110").jumps(0, 0, "x-").gives("jump 0 1 x", 1).gives("jump 0 2 x", 3).gives("jump 0 3 -", 2);
        x.state("jump 0 2 -");
        x.does("bar 0 120").gives("jump 0 0 x", 3).gives("jump 0 1 x", 2).gives("jump 0 1 o", 0).gives("jump 0 3 o", 0);
        x.state("jump 0 0 -", "jump 0 2 o");
        x.does("bar 0 130").state("jump 0 0 o").gives("jump 0 1 x", 1).gives("jump 0 3 x", 1);
    }

    private static void trialsAtTheBar() {
        CHECK.promise(17, "Throws IllegalStateException if it is closed, there is no bar,"
                + " or the athlete has no further trial");
        Run x = jump(1).state("jump 0 0 o", "jump 0 0 x", "jump 0 0 -").argument("jump 0 0 q");
        x.does("bar 0 100").gives("jump 0 0 x", 1);
        x.does("close 0 true").state("jump 0 0 o", "jump 0 0 x").argument("jump 0 0 X").none("resultOf 0 0");
        x.does("close 0 false").gives("jump 0 0 x", 2).gives("jump 0 0 o", 0);
        CHECK.terms("All that follows goes by the field as it is now, of closed events, too.");
        x.does("athlete 3").gives("jump 0 1 o", 0).none("resultOf 0 1").does("enter 0 1 600").gives("resultOf 0 1", 100);
    }

    private static void jumpsRefused() {
        CHECK.promise(17, "Throws IndexOutOfBoundsException if there is no such event or athlete");
        Run x = jump(2).does("event r 1 1 2", "event t 1 1 2", "bar 0 100");
        x.index("jump 3 0 o", "jump -1 0 o", "jump 0 2 o", "jump 0 -1 o", "jump 3 0 q", "jump 0 2 q", "jump 1 2 o");
        CHECK.promise(17, "Throws IllegalArgumentException if there is no such trial");
        x.argument("jump 0 0 q", "jump 1 0 q", "jump 2 1 q");
        CHECK.promise(17, "Throws UnsupportedOperationException if the event is of another kind");
        x.kind("jump 1 0 o", "jump 2 1 -").does("close 1 true").kind("jump 1 0 o");
        x.row("rankOf 0 #", 2, "- -").gives("jump 0 0 x", 1);
    }

    private static void results() {
        CHECK.terms("The result is the greatest height that was cleared.");
        Run x = jump(4).does("bar 0 100").jumps(0, 0, "o").jumps(0, 1, "o").jumps(0, 2, "xx-").jumps(0, 3, "-");
        x.row("resultOf 0 #", 4, "100 100 - -");
        x.does("bar 0 110").jumps(0, 0, "-").jumps(0, 1, "xo").jumps(0, 2, "x").row("resultOf 0 #", 4, "100 110 - -");
        x.does("bar 0 120").jumps(0, 0, "xxo").jumps(0, 3, "xxx").row("resultOf 0 #", 4, "120 110 - -");
        CHECK.terms("Ranks are by that");
        x.row("rankOf 0 #", 4, "1 2 - -");
        x.does("withdraw 0 0 true").row("rankOf 0 #", 4, "- 1 - -").none("resultOf 0 0");
    }

    private static void countback() {
        CHECK.terms("Ranks are by that; then by fewer failures at that height; then by fewer failures in all up to it;"
                + " then they are alike.");
        Run fewerThere = jump(3).does("bar 0 100").jumps(0, 0, "o").jumps(0, 1, "xo").jumps(0, 2, "xxo");
        fewerThere.row("rankOf 0 #", 3, "1 2 3").does("bar 0 110").jumps(0, 0, "xxo").jumps(0, 1, "xo").jumps(0, 2, "o");
        fewerThere.row("rankOf 0 #", 3, "3 2 1");
        Run fewerInAll = jump(4).does("bar 0 100").jumps(0, 0, "xxo").jumps(0, 1, "xo").jumps(0, 2, "o").jumps(0, 3, "x-");
        fewerInAll.does("bar 0 110").jumps(0, 0, "xo").jumps(0, 1, "xo").jumps(0, 2, "xo").jumps(0, 3, "xo");
        fewerInAll.row("rankOf 0 #", 4, "4 2 1 2");
        // failures above the greatest height that was cleared count for nothing
        fewerInAll.does("bar 0 120").jumps(0, 2, "xxx").jumps(0, 1, "xx").row("rankOf 0 #", 4, "4 2 1 2");
        fewerInAll.jumps(0, 3, "xx-").does("bar 0 130").jumps(0, 0, "x-").row("rankOf 0 #", 4, "4 2 1 2");
        // as soon as one above is cleared, they count
        fewerInAll.jumps(0, 3, "o").row("rankOf 0 #", 4, "4 3 2 1").gives("resultOf 0 3", 130);
        Run alike = jump(24).does("bar 0 100");
        for (int i = 0; i < 24; i++) {
            alike.jumps(0, i, i < 20 ? "xo" : "o");
        }
        alike.each("rankOf 0 #", "5 5 5 1 1", 0, 7, 19, 20, 23);
    }
}
