/** Games that are made ready for a test. */
final class Games {
    private Games() {
    }

    static HeatStadium withAthletes(int... nations) {
        HeatStadium games = new HeatStadium();
        for (int nation : nations) {
            games.athlete(nation);
        }
        return games;
    }

    /** Athletes 0 to count - 1 of the nations 0, 1, .., 7, 0, .. in one event of quota 5 and limit 24. */
    static HeatStadium ofKind(char kind, int count) {
        HeatStadium games = new HeatStadium();
        for (int i = 0; i < count; i++) {
            games.athlete(i % 8);
        }
        games.event(kind, 500, 5, 24);
        for (int i = 0; i < count; i++) {
            games.enter(0, i, kind == 'r' ? 100 + i : 900 - i);
        }
        return games;
    }

    /** An event 0 for each athlete, in order of the numbers, with a nation for each. */
    static HeatStadium race(int... nations) {
        HeatStadium games = withAthletes(nations);
        games.event('r', 500, 5, 24);
        for (int i = 0; i < nations.length; i++) {
            games.enter(0, i, 100 + i);
        }
        return games;
    }

    static void times(HeatStadium games, int round, int... times) {
        for (int i = 0; i < times.length; i++) {
            if (times[i] > 0) {
                games.time(0, round, i, times[i], false, 0);
            }
        }
    }

    static void jumps(HeatStadium games, int athlete, String trials) {
        for (int i = 0; i < trials.length(); i++) {
            games.jump(0, athlete, trials.charAt(i));
        }
    }

    static void puts(HeatStadium games, int athlete, int... lengths) {
        for (int length : lengths) {
            games.put(0, athlete, length);
        }
    }

    static String field(HeatStadium games, int event) {
        StringBuilder text = new StringBuilder();
        for (int i = 0; i < games.field(event); i++) {
            text.append(i == 0 ? "" : " ").append(games.inField(event, i));
        }
        return text.toString();
    }

    static String finalists(HeatStadium games, int event) {
        StringBuilder text = new StringBuilder();
        for (int i = 0; Check.ask(at(games, event, i)) instanceof Integer; i++) {
            text.append(i == 0 ? "" : " ").append(games.inFinal(event, i));
        }
        return text.toString();
    }

    private static java.util.function.Supplier<Object> at(HeatStadium games, int event, int index) {
        return () -> games.inFinal(event, index);
    }

    static String heats(HeatStadium games, int count) {
        StringBuilder text = new StringBuilder();
        for (int i = 0; i < count; i++) {
            text.append(games.heatOf(0, i));
        }
        return text.toString();
    }

    static String lanes(HeatStadium games, int round, int... athletes) {
        StringBuilder text = new StringBuilder();
        for (int athlete : athletes) {
            text.append(games.laneOf(0, round, athlete));
        }
        return text.toString();
    }

    /** The rank of each athlete, '-' for who has none. */
    static String ranks(HeatStadium games, int event, int count) {
        StringBuilder text = new StringBuilder();
        for (int i = 0; i < count; i++) {
            int athlete = i;
            Object rank = Check.ask(() -> games.rankOf(event, athlete));
            text.append(i == 0 ? "" : " ").append(rank instanceof Integer ? rank : "-");
        }
        return text.toString();
    }

    static String table(HeatStadium games, boolean byAll) {
        StringBuilder text = new StringBuilder();
        for (int i = 0; i < 8; i++) {
            text.append(games.inTable(i, byAll));
        }
        return text.toString();
    }
}
