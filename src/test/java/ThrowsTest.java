/** Promise 18, "Throws": rounds, who goes on, ties by the next best. */
public final class ThrowsTest {
    private static final Check CHECK = new Check("ThrowsTest");

    public static void main(String[] args) {
        lengths();
        sixRounds();
        putsRefused();
        bestAndNextBest();
        bestEight();
        fewerThanEight();
        alikeWithTheEighth();
        failuresAloneInThese();
        laterRounds();
        failuresAlone();
        byTheField();
        CHECK.finish();
    }

    private static Run of(int count) {
        return Run.of(CHECK, 't', count);
    }

    private static void lengths() {
        CHECK.promise(18, "length: the length, 0 to 9999");
        of(1).does("put 0 0 0", "put 0 0 9999", "put 0 0 1").gives("resultOf 0 0", 9999);
        CHECK.promise(18, "Throws IllegalArgumentException if it is out of range");
        of(1).argument("put 0 0 -1", "put 0 0 10000", "put 0 0 " + Integer.MIN_VALUE, "put 0 0 " + Integer.MAX_VALUE)
                .gives("put 0 0 5", 1);
    }

    private static void sixRounds() {
        CHECK.terms("There are 6 rounds; a throw is a length in centimetres, 0 for a failure.");
        CHECK.promise(18, "Marks a throw, in the next round of the athlete.");
        CHECK.promise(18, "Returns the round, 1 to 6.");
        Run x = of(2);
        for (int round = 1; round <= 6; round++) {
            x.gives("put 0 0 " + round % 2, round);
        }
        x.gives("put 0 1 7", 1);
        CHECK.promise(18, "Throws IllegalStateException if it is closed, or the athlete has 6 throws");
        x.state("put 0 0 0", "put 0 0 9999").argument("put 0 0 10000").gives("resultOf 0 0", 1).gives("put 0 1 8", 2);
    }

    private static void putsRefused() {
        CHECK.promise(18, "Throws IndexOutOfBoundsException if there is no such event or athlete");
        Run x = of(1).does("event r 1 1 2", "event j 1 1 2");
        x.index("put 3 0 5", "put -1 0 5", "put 0 1 5", "put 0 -1 5", "put 3 0 -1", "put 0 1 -1", "put 1 1 5");
        CHECK.promise(18, "Throws UnsupportedOperationException if the event is of another kind");
        x.kind("put 1 0 5", "put 2 0 0").argument("put 1 0 10000", "put 2 0 -1");
        CHECK.promise(18, "Throws IllegalStateException if it is closed, or the athlete has 6 throws");
        x.does("close 0 true", "close 1 true").state("put 0 0 5").argument("put 0 0 -1").kind("put 1 0 5");
        x.none("resultOf 0 0").does("close 0 false").gives("put 0 0 5", 1);
    }

    private static void bestAndNextBest() {
        CHECK.terms("Results are compared by the best throw, then by the next best one, and so on; then they are alike.");
        of(3).puts(0, 0, 500, 10).puts(0, 1, 501).puts(0, 2, 9, 502, 9).row("rankOf 0 #", 3, "3 2 1");
        of(3).puts(0, 0, 500, 400).puts(0, 1, 401, 500).puts(0, 2, 500).row("rankOf 0 #", 3, "2 1 3");
        of(3).puts(0, 0, 5, 4, 3).puts(0, 1, 4, 5, 2).puts(0, 2, 3, 4, 5).row("rankOf 0 #", 3, "1 3 1");
        Run x = of(2).puts(0, 0, 9, 8, 7, 6, 5, 4).puts(0, 1, 7, 9, 8, 5, 6).row("rankOf 0 #", 2, "1 2");
        x.puts(0, 1, 4).row("rankOf 0 #", 2, "1 1");
        of(2).puts(0, 0, 9, 8, 7, 6, 5, 4).puts(0, 1, 7, 9, 8, 5, 6, 5).row("rankOf 0 #", 2, "2 1");
        of(2).puts(0, 0, 9, 8, 7, 6, 5, 4).puts(0, 1, 9, 8, 7, 7).row("rankOf 0 #", 2, "2 1");
        // a throw that was not made is as a failure
        of(2).puts(0, 0, 9, 0, 8).puts(0, 1, 8, 9).row("rankOf 0 #", 2, "1 1");
    }

    private static void bestEight() {
        CHECK.terms("By the first 3 throws of each, as far as there are some now,"
                + " those with the best 8 results go on");
        Run x = of(10);
        for (int i = 0; i < 10; i++) {
            x.puts(0, i, 100 - i, 0, 0, 500 + i);
        }
        x.row("rankOf 0 #", 10, "8 7 6 5 4 3 2 1 9 10").gives("resultOf 0 7", 507).gives("resultOf 0 8", 92);
        x.does("withdraw 0 0 true").row("rankOf 0 #", 10, "- 8 7 6 5 4 3 2 1 9").gives("resultOf 0 8", 508);
        x.does("withdraw 0 0 false", "dope 3 true", "dope 4 true").row("rankOf 0 #", 10, "8 7 6 - - 5 4 3 2 1");
        CHECK.terms("as far as there are some now");
        Run some = of(9).puts(0, 8, 50, 0, 0, 700).row("rankOf 0 #", 9, "- - - - - - - - 1").gives("resultOf 0 8", 700);
        for (int i = 0; i < 8; i++) {
            some.gives("resultOf 0 8", 700).puts(0, i, 60);
        }
        some.gives("resultOf 0 8", 50).row("rankOf 0 #", 9, "1 1 1 1 1 1 1 1 9");
    }

    private static void fewerThanEight() {
        CHECK.terms("those with the best 8 results go on");
        Run x = of(8);
        for (int i = 0; i < 8; i++) {
            x.puts(0, i, 10 + i, 0, 0, 100 - i);
        }
        x.row("resultOf 0 #", 8, "100 99 98 97 96 95 94 93").row("rankOf 0 #", 8, "1 2 3 4 5 6 7 8");
        of(1).puts(0, 0, 1, 0, 0, 2, 3, 4).gives("resultOf 0 0", 4);
    }

    private static void alikeWithTheEighth() {
        CHECK.terms("those who are alike with the eighth in all three do, too");
        Run x = of(11);
        for (int i = 0; i < 7; i++) {
            x.puts(0, i, 200, 0, 0);
        }
        x.puts(0, 7, 50, 40, 30, 7).puts(0, 8, 30, 50, 40, 8).puts(0, 9, 50, 40, 29, 9999).puts(0, 10, 40, 30, 50);
        x.row("rankOf 0 #", 11, "1 1 1 1 1 1 1 9 8 11 10").gives("resultOf 0 9", 50);
        Run all = of(12);
        for (int i = 0; i < 12; i++) {
            all.puts(0, i, 5, 5, 5, 10 + i);
        }
        all.row("rankOf 0 #", 12, "12 11 10 9 8 7 6 5 4 3 2 1");
        all.puts(0, 0, 99).row("rankOf 0 #", 12, "1 12 11 10 9 8 7 6 5 4 3 2");
    }

    private static void failuresAloneInThese() {
        CHECK.terms("one with failures alone in these does not.");
        of(3).puts(0, 0, 0, 0, 0, 700).puts(0, 1, 0, 0, 1, 700).puts(0, 2, 0, 0).row("rankOf 0 #", 3, "- 1 -");
        of(2).puts(0, 0, 0, 0, 0, 9999, 9999, 9999).row("resultOf 0 #", 2, "- -").none("record 0");
    }

    private static void laterRounds() {
        CHECK.terms("Throws in later rounds of those who do not go on count for nothing.");
        Run x = of(9);
        for (int i = 0; i < 8; i++) {
            x.puts(0, i, 60, 50);
        }
        x.puts(0, 8, 60, 49, 49, 900).gives("resultOf 0 8", 60).gives("rankOf 0 8", 9).gives("record 0", 60);
        x.does("close 0 true").row("medals # 1", 8, "1 1 1 1 1 1 1 1");
        x.does("dope 0 true").gives("resultOf 0 8", 900).gives("rankOf 0 8", 1).gives("record 0", 900);
        x.row("medals # 1", 8, "1 0 0 0 0 0 0 0");
    }

    private static void failuresAlone() {
        CHECK.terms("One with failures alone has no result.");
        Run x = of(3).puts(0, 0, 0, 0, 0, 0, 0, 0).puts(0, 1, 0).row("resultOf 0 #", 3, "- - -");
        x.row("rankOf 0 #", 3, "- - -").none("record 0").puts(0, 1, 1).row("resultOf 0 #", 3, "- 1 -");
    }

    private static void byTheField() {
        CHECK.terms("All that follows goes by the field as it is now, of closed events, too.");
        Run x = new Run(CHECK).athletes(0, 0).does("event t 500 1 2", "enter 0 0 900").puts(0, 0, 300).puts(0, 1, 400);
        x.row("rankOf 0 #", 2, "1 -").does("enter 0 1 901").row("rankOf 0 #", 2, "- 1").gives("resultOf 0 1", 400);
    }
}
