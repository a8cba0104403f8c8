import java.util.Random;
import java.util.function.Supplier;

/** Holds the class against Model over random runs of 512 calls; the seeds are always the same. */
public final class ModelTest {
    private static final int RUNS = 1500;
    private static final int CALLS = 512;
    private static final int[] ODD = {-1, 0, 1, 2, 3, 8, 24, 25, 30, 100, 999, 1000, 9999, 10000, 999999, 1000000,
        Integer.MIN_VALUE, Integer.MAX_VALUE};

    private final Check check = new Check("ModelTest");
    private Random random;
    private HeatStadium made;
    private Model model;
    private String kinds;
    private int nations;
    private int athletes;
    private int events;

    public static void main(String[] args) {
        ModelTest test = new ModelTest();
        for (int run = 0; run < RUNS; run++) {
            test.run(run);
        }
        test.check.finish();
    }

    private void run(int seed) {
        random = new Random(seed);
        made = new HeatStadium();
        model = new Model();
        kinds = new String[] {"r", "j", "t", "rjt", "rr"}[seed % 5];
        nations = 1 + random.nextInt(8);
        athletes = 0;
        events = 0;
        int call = 0;
        int wantedAthletes = 2 + random.nextInt(29);
        int wantedEvents = 1 + random.nextInt(seed % 3 == 0 ? 5 : 2);
        for (; athletes < wantedAthletes; call++) {
            addAthlete();
        }
        for (; events < wantedEvents; call++) {
            addEvent();
        }
        for (int i = 0; i < athletes && call < CALLS; i++) {
            for (int event = 0; event < events && call < CALLS; event++, call++) {
                if (random.nextInt(10) > 0) {
                    enter(event, i);
                }
            }
        }
        for (; call < CALLS; call++) {
            anyCall();
        }
    }

    private void both(String call, Supplier<Object> ofMade, Supplier<Object> ofModel) {
        check.due(call, Check.ask(ofMade), Check.ask(ofModel));
    }

    private int odd(int usual) {
        return random.nextInt(60) == 0 ? ODD[random.nextInt(ODD.length)] : usual;
    }

    private boolean yes() {
        return random.nextBoolean();
    }

    private void addAthlete() {
        int nation = random.nextInt(nations);
        both("athlete", () -> made.athlete(nation), () -> model.athlete(nation));
        athletes++;
    }

    private void addEvent() {
        char kind = kinds.charAt(random.nextInt(kinds.length()));
        int quota = yes() ? 5 : 1 + random.nextInt(5);
        int limit = yes() ? 24 : 2 + random.nextInt(23);
        both("event", () -> made.event(kind, 50, quota, limit), () -> model.event(kind, 50, quota, limit));
        events++;
    }

    private void enter(int event, int athlete) {
        int best = odd(1 + random.nextInt(55) + (random.nextInt(8) == 0 ? 40 : 0));
        boolean isRace = kinds.startsWith("r");
        int given = isRace ? best : best + 45;
        both("enter", () -> made.enter(event, athlete, given), () -> model.enter(event, athlete, given));
    }

    private void anyCall() {
        int event = odd(random.nextInt(events));
        int athlete = odd(random.nextInt(athletes));
        int round = odd(random.nextInt(2));
        int choice = random.nextInt(100);
        if (choice < 40) {
            mark(event, round, athlete);
        } else if (choice < 52) {
            tell(event, round, athlete);
        } else if (choice < 56) {
            set(event, athlete);
        } else {
            ask(event, round, athlete);
        }
    }

    private void mark(int event, int round, int athlete) {
        char kind = kinds.charAt(random.nextInt(kinds.length()));
        if (kind == 'r') {
            int time = odd(random.nextInt(4) == 0 ? 300 : 290 + random.nextInt(30));
            int wind = random.nextInt(5) == 0 ? odd(19 + random.nextInt(4)) : 0;
            boolean byHand = random.nextInt(8) == 0;
            both("time", () -> made.time(event, round, athlete, time, byHand, wind),
                    () -> model.time(event, round, athlete, time, byHand, wind));
        } else if (kind == 'j') {
            char trial = "oxxo-oxxo-?".charAt(random.nextInt(random.nextInt(9) == 0 ? 11 : 10));
            if (random.nextInt(15) == 0) {
                int height = odd(20 * random.nextInt(40));
                both("bar", () -> made.bar(event, height), () -> model.bar(event, height));
            }
            both("jump", () -> made.jump(event, athlete, trial), () -> model.jump(event, athlete, trial));
        } else {
            int length = odd(random.nextInt(4));
            both("put", () -> made.put(event, athlete, length), () -> model.put(event, athlete, length));
        }
    }

    private void tell(int event, int round, int athlete) {
        int what = random.nextInt(6);
        if (what == 0) {
            int reaction = odd(95 + random.nextInt(10));
            both("react", () -> made.react(event, round, athlete, reaction),
                    () -> model.react(event, round, athlete, reaction));
        } else if (what == 1) {
            both("putOut", () -> made.putOut(event, round, athlete), () -> model.putOut(event, round, athlete));
        } else if (what < 4) {
            both("protest", () -> made.protest(event, round, athlete), () -> model.protest(event, round, athlete));
        } else if (what == 4) {
            int protest = odd(random.nextInt(8));
            boolean isUpheld = yes();
            both("decide", () -> made.decide(protest, isUpheld), () -> model.decide(protest, isUpheld));
        } else {
            int minutes = odd(1 + random.nextInt(10));
            both("pass", () -> made.pass(minutes), () -> model.pass(minutes));
        }
    }

    private void set(int event, int athlete) {
        boolean is = random.nextInt(3) == 0;
        int what = random.nextInt(7);
        if (what < 2) {
            both("dope", () -> made.dope(athlete, is), () -> model.dope(athlete, is));
        } else if (what < 4) {
            both("withdraw", () -> made.withdraw(event, athlete, is), () -> model.withdraw(event, athlete, is));
        } else if (what < 6) {
            boolean isClosed = random.nextInt(4) == 0;
            both("close", () -> made.close(event, isClosed), () -> model.close(event, isClosed));
        } else {
            enter(event, athlete);
        }
    }

    private void ask(int event, int round, int athlete) {
        int index = odd(random.nextInt(12));
        switch (random.nextInt(9)) {
            case 0 -> {
                both("field", () -> made.field(event), () -> model.field(event));
                both("inField", () -> made.inField(event, index), () -> model.inField(event, index));
            }
            case 1 -> both("heatOf", () -> made.heatOf(event, athlete), () -> model.heatOf(event, athlete));
            case 2 -> both("laneOf", () -> made.laneOf(event, round, athlete),
                    () -> model.laneOf(event, round, athlete));
            case 3 -> both("isOut", () -> made.isOut(event, round, athlete),
                    () -> model.isOut(event, round, athlete));
            case 4 -> both("inFinal", () -> made.inFinal(event, index), () -> model.inFinal(event, index));
            case 5 -> both("rankOf", () -> made.rankOf(event, athlete), () -> model.rankOf(event, athlete));
            case 6 -> both("resultOf", () -> made.resultOf(event, athlete), () -> model.resultOf(event, athlete));
            case 7 -> {
                both("record", () -> made.record(event), () -> model.record(event));
                both("holder", () -> made.holder(event), () -> model.holder(event));
                both("sharers", () -> made.sharers(event), () -> model.sharers(event));
            }
            default -> askOfNations();
        }
    }

    private void askOfNations() {
        int nation = odd(random.nextInt(nations));
        int rank = odd(random.nextInt(4));
        boolean byAll = yes();
        switch (random.nextInt(6)) {
            case 0 -> both("medals", () -> made.medals(nation, rank), () -> model.medals(nation, rank));
            case 1 -> both("inTable", () -> made.inTable(nation, byAll), () -> model.inTable(nation, byAll));
            case 2, 3 -> both("points", () -> made.points(nation), () -> model.points(nation));
            case 4 -> both("shareBits", () -> made.shareBits(nation), () -> model.shareBits(nation));
            default -> both("isTrue", () -> made.isTrue(), () -> model.isTrue());
        }
    }
}
