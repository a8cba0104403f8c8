import java.util.NoSuchElementException;

/**
 * A games of athletics: entries, heats, finals, jumps, throws, protests, doping, records and medals.
 *
 * <p>Only what was told is kept. Fields, heats, ranks, records and medals are made anew from it at
 * each question, in rows that the constructor makes once, so that no answer is ever out of date.
 */
public final class HeatStadium {
    private static final int MOST_ATHLETES = 30;
    private static final int MOST_EVENTS = 5;
    private static final int MOST_IN_FIELD = 24;
    private static final int MOST_BEST = 999999;
    private static final int NATIONS = 8;
    private static final int ROUNDS = 2;
    private static final int LANES = 8;
    private static final int MOST_HEATS = 3;
    private static final int LOTS = 41;
    private static final int NO_ARRIVAL = -1;
    private static final int MOST_BARS = 10;
    private static final int MOST_FAILURES = 3;
    private static final int THROWS = 6;
    private static final int FIRST_THROWS = 3;
    private static final int MOST_GOING_ON = 8;
    private static final int MOST_WIND = 99;
    private static final int RECORD_WIND = 20;
    private static final int FALSE_START = 100;
    private static final int PROTEST_MINUTES = 30;
    private static final int DEPOSIT = 100;
    private static final int MOST_PROTESTS = MOST_EVENTS * ROUNDS * MOST_ATHLETES;
    private static final int POINT_PLACES = 8;

    private static final int[] LANE_ORDER = {4, 5, 3, 6, 7, 8, 1, 2};

    private final Athletes athletes = new Athletes();
    private final Event[] events = new Event[MOST_EVENTS];
    private final Protests protests = new Protests();
    private final FieldNow fieldNow = new FieldNow();
    private final RaceDraw draw = new RaceDraw();
    private final Results results = new Results();
    private final RecordMark best = new RecordMark();
    private final MedalTable table = new MedalTable();
    private int eventCount;
    private int minute;
    private int marksTold;

    public HeatStadium() {
        eventCount = 0;
        minute = 0;
        marksTold = 0;
    }

    // ---- athletes, events, fields

    public int athlete(int nation) throws IllegalArgumentException, IllegalStateException {
        requireNation(nation);
        int number = athletes.count;
        if (number >= MOST_ATHLETES) {
            throw new IllegalStateException("there are 30 athletes");
        }
        athletes.nations[number] = nation;
        athletes.count = number + 1;
        return number;
    }

    public int event(char kind, int standard, int quota, int limit)
            throws IllegalArgumentException, IllegalStateException {
        if (kind != 'r' && kind != 'j' && kind != 't') {
            throw new IllegalArgumentException("no such kind");
        }
        requireRange(standard, 1, MOST_BEST);
        requireRange(quota, 1, 5);
        requireRange(limit, 2, MOST_IN_FIELD);
        int number = eventCount;
        if (number >= MOST_EVENTS) {
            throw new IllegalStateException("there are 5 events");
        }
        events[number] = new Event(number, kind, standard, quota, limit);
        eventCount = number + 1;
        return number;
    }

    public int enter(int event, int athlete, int best)
            throws IndexOutOfBoundsException, IllegalArgumentException, IllegalStateException {
        Event entered = eventFor(event, athlete);
        requireRange(best, 1, MOST_BEST);
        requireOpen(entered);
        if (entered.bests[athlete] == 0) {
            entered.entries++;
        }
        entered.bests[athlete] = best;
        return entered.entries;
    }

    public boolean withdraw(int event, int athlete, boolean is)
            throws IndexOutOfBoundsException, NoSuchElementException, IllegalStateException {
        Event left = eventFor(event, athlete);
        if (left.bests[athlete] == 0) {
            throw new NoSuchElementException("the athlete has not entered");
        }
        requireOpen(left);
        boolean was = left.withdrawn[athlete];
        left.withdrawn[athlete] = is;
        return was;
    }

    public int field(int event) throws IndexOutOfBoundsException {
        fieldNow.make(eventAt(event), athletes);
        return fieldNow.size;
    }

    public int inField(int event, int index) throws IndexOutOfBoundsException, NoSuchElementException {
        fieldNow.make(eventAt(event), athletes);
        if (index < 0 || index >= fieldNow.size) {
            throw new NoSuchElementException("not so many are in the field");
        }
        return fieldNow.members[index];
    }

    public int pass(int minutes) throws IllegalArgumentException {
        requireRange(minutes, 1, 9999);
        minute += minutes;
        return minute;
    }

    // ---- races

    public int heatOf(int event, int athlete)
            throws IndexOutOfBoundsException, UnsupportedOperationException, NoSuchElementException {
        Event race = eventFor(event, athlete);
        requireKind(race, 'r');
        drawRace(race);
        if (!fieldNow.isIn[athlete]) {
            throw new NoSuchElementException("the athlete is not in the field");
        }
        return draw.heats[athlete];
    }

    public int laneOf(int event, int round, int athlete)
            throws IndexOutOfBoundsException, IllegalArgumentException,
                    UnsupportedOperationException, NoSuchElementException {
        Event race = raceFor(event, round, athlete);
        drawRace(race);
        int place = round == 0 ? draw.placeInHeat(fieldNow, athlete) : draw.placeInFinal(athlete);
        if (place < 0 || place >= LANES) {
            throw new NoSuchElementException("the athlete is not in this round");
        }
        return LANE_ORDER[place];
    }

    public int time(int event, int round, int athlete, int thousandths, boolean byHand, int wind)
            throws IndexOutOfBoundsException, IllegalArgumentException,
                    UnsupportedOperationException, IllegalStateException {
        Event race = eventFor(event, athlete);
        requireRange(round, 0, ROUNDS - 1);
        requireRange(thousandths, 1, MOST_BEST);
        requireRange(wind, -MOST_WIND, MOST_WIND);
        requireKind(race, 'r');
        requireOpen(race);
        int counted = byHand ? (thousandths + 99) / 100 * 100 + 240 : thousandths;
        Round marks = race.marksOf(round);
        marks.times[athlete] = counted;
        marks.winds[athlete] = wind;
        marks.toldAs[athlete] = nextMark();
        return (counted + 9) / 10;
    }

    public boolean react(int event, int round, int athlete, int thousandths)
            throws IndexOutOfBoundsException, IllegalArgumentException,
                    UnsupportedOperationException, IllegalStateException {
        Event race = eventFor(event, athlete);
        requireRange(round, 0, ROUNDS - 1);
        requireRange(thousandths, 0, 999);
        requireKind(race, 'r');
        requireOpen(race);
        Round marks = race.marksOf(round);
        if (marks.out[athlete]) {
            throw new IllegalStateException("the athlete is out of this round");
        }
        boolean isFalse = thousandths < FALSE_START;
        if (isFalse) {
            marks.exclude(athlete, minute);
        }
        return isFalse;
    }

    public boolean putOut(int event, int round, int athlete)
            throws IndexOutOfBoundsException, IllegalArgumentException,
                    UnsupportedOperationException, IllegalStateException {
        Event race = raceFor(event, round, athlete);
        requireOpen(race);
        return race.marksOf(round).exclude(athlete, minute);
    }

    public boolean isOut(int event, int round, int athlete)
            throws IndexOutOfBoundsException, IllegalArgumentException, UnsupportedOperationException {
        Event race = raceFor(event, round, athlete);
        return race.marksOf(round).out[athlete];
    }

    public int inFinal(int event, int index)
            throws IndexOutOfBoundsException, UnsupportedOperationException, NoSuchElementException {
        Event race = eventAt(event);
        requireKind(race, 'r');
        drawRace(race);
        if (index < 0 || index >= draw.finalSize) {
            throw new NoSuchElementException("not so many are in the final");
        }
        return draw.finalists[index];
    }

    // ---- jumps and throws

    public int bar(int event, int height)
            throws IndexOutOfBoundsException, IllegalArgumentException,
                    UnsupportedOperationException, IllegalStateException {
        Event contest = eventAt(event);
        Jumps jumps = contest.jumps;
        requireRange(height, jumps.lastHeight() + 1, 999);
        requireKind(contest, 'j');
        requireOpen(contest);
        int bars = jumps.bars;
        if (bars >= MOST_BARS) {
            throw new IllegalStateException("there were 10 heights");
        }
        jumps.heights[bars] = height;
        jumps.bars = bars + 1;
        return jumps.bars;
    }

    public int jump(int event, int athlete, char trial)
            throws IndexOutOfBoundsException, IllegalArgumentException,
                    UnsupportedOperationException, IllegalStateException {
        Event contest = eventFor(event, athlete);
        if (trial != 'o' && trial != 'x' && trial != '-') {
            throw new IllegalArgumentException("no such trial");
        }
        requireKind(contest, 'j');
        requireOpen(contest);
        Jumps jumps = contest.jumps;
        if (!jumps.hasTrial(athlete)) {
            throw new IllegalStateException("no bar, or no further trial");
        }
        jumps.mark(athlete, trial, nextMark());
        return jumps.failuresInRow[athlete];
    }

    public int put(int event, int athlete, int length)
            throws IndexOutOfBoundsException, IllegalArgumentException,
                    UnsupportedOperationException, IllegalStateException {
        Event contest = eventFor(event, athlete);
        requireRange(length, 0, 9999);
        requireKind(contest, 't');
        requireOpen(contest);
        Throws series = contest.series;
        int done = series.counts[athlete];
        if (done >= THROWS) {
            throw new IllegalStateException("the athlete has 6 throws");
        }
        series.lengths[athlete][done] = length;
        series.toldAs[athlete][done] = nextMark();
        series.counts[athlete] = done + 1;
        return done + 1;
    }

    // ---- ranks, protests, doping

    public int rankOf(int event, int athlete) throws IndexOutOfBoundsException, NoSuchElementException {
        makeResults(eventFor(event, athlete));
        if (!results.has[athlete]) {
            throw new NoSuchElementException("the athlete has no rank");
        }
        return results.ranks[athlete];
    }

    public int resultOf(int event, int athlete) throws IndexOutOfBoundsException, NoSuchElementException {
        Event contest = eventFor(event, athlete);
        makeResults(contest);
        if (!results.has[athlete]) {
            throw new NoSuchElementException("the athlete has no result");
        }
        return contest.resultFrom(results.worths[athlete][0]);
    }

    public int protest(int event, int round, int athlete)
            throws IndexOutOfBoundsException, IllegalArgumentException,
                    UnsupportedOperationException, IllegalStateException {
        Event race = raceFor(event, round, athlete);
        Round marks = race.marksOf(round);
        if (!marks.out[athlete]) {
            throw new IllegalStateException("the athlete is not out of this round");
        }
        if (minute - marks.outSince[athlete] > PROTEST_MINUTES) {
            throw new IllegalStateException("it is too late");
        }
        if (marks.protested[athlete] || protests.count >= MOST_PROTESTS) {
            throw new IllegalStateException("the athlete protested for it");
        }
        marks.protested[athlete] = true;
        return protests.add(marks, athlete);
    }

    public long decide(int protest, boolean isUpheld) throws IndexOutOfBoundsException, IllegalStateException {
        if (protest < 0 || protest >= protests.count) {
            throw new IndexOutOfBoundsException("no such protest");
        }
        if (protests.decided[protest]) {
            throw new IllegalStateException("it was decided");
        }
        protests.settle(protest, isUpheld);
        return protests.kept;
    }

    public boolean dope(int athlete, boolean is) throws IndexOutOfBoundsException {
        requireAthlete(athlete);
        boolean was = athletes.doped[athlete];
        athletes.doped[athlete] = is;
        return was;
    }

    public boolean close(int event, boolean is) throws IndexOutOfBoundsException {
        Event contest = eventAt(event);
        boolean was = contest.closed;
        contest.closed = is;
        return was;
    }

    public int record(int event) throws IndexOutOfBoundsException, NoSuchElementException {
        Event contest = eventAt(event);
        seekRecord(contest);
        requireRecord();
        return contest.resultFrom(best.worth);
    }

    public int holder(int event) throws IndexOutOfBoundsException, NoSuchElementException {
        seekRecord(eventAt(event));
        requireRecord();
        return best.keeper;
    }

    public int sharers(int event) throws IndexOutOfBoundsException {
        seekRecord(eventAt(event));
        return best.keepers;
    }

    public int medals(int nation, int rank) throws IllegalArgumentException {
        requireNation(nation);
        requireRange(rank, 0, 3);
        countMedals();
        return table.counts[nation][rank];
    }

    public int inTable(int index, boolean byAll) throws IllegalArgumentException {
        requireRange(index, 0, NATIONS - 1);
        countMedals();
        return table.nationAt(index, byAll);
    }

    public double points(int nation) throws IllegalArgumentException {
        requireNation(nation);
        double sum = 0.0;
        for (int number = 0; number < eventCount; number++) {
            Event contest = events[number];
            if (contest == null || !contest.closed) {
                continue;
            }
            makeResults(contest);
            for (int athlete = 0; athlete < athletes.count; athlete++) {
                if (results.has[athlete] && athletes.nations[athlete] == nation) {
                    sum += results.pointsFor(athlete);
                }
            }
        }
        return sum;
    }

    public int shareBits(int nation) throws IllegalArgumentException, ArithmeticException {
        requireNation(nation);
        countMedals();
        if (table.given < 1) {
            throw new ArithmeticException("there are no medals");
        }
        return bitsOf((float) table.counts[nation][0] / (float) table.given);
    }

    public boolean isTrue() {
        for (int number = 0; number < eventCount; number++) {
            Event contest = events[number];
            if (contest == null) {
                continue;
            }
            makeResults(contest);
            if (!results.areWithin(fieldNow)) {
                return false;
            }
            if (contest.kind == 'r' && !draw.hasLanesOfTheirOwn()) {
                return false;
            }
        }
        countMedals();
        return table.sumOfNations() == table.given;
    }

    // ---- what the calls share

    private Event eventAt(int number) {
        if (number < 0 || number >= eventCount) {
            throw new IndexOutOfBoundsException("no such event");
        }
        Event found = events[number];
        if (found == null) {
            throw new IndexOutOfBoundsException("no such event");
        }
        return found;
    }

    private Event eventFor(int number, int athlete) {
        Event found = eventAt(number);
        requireAthlete(athlete);
        return found;
    }

    private Event raceFor(int number, int round, int athlete) {
        Event found = eventFor(number, athlete);
        requireRange(round, 0, ROUNDS - 1);
        requireKind(found, 'r');
        return found;
    }

    private void requireAthlete(int athlete) {
        if (athlete < 0 || athlete >= athletes.count) {
            throw new IndexOutOfBoundsException("no such athlete");
        }
    }

    private static void requireNation(int nation) {
        if (nation < 0 || nation >= NATIONS) {
            throw new IllegalArgumentException("no such nation");
        }
    }

    private static void requireRange(int value, int least, int most) {
        if (value < least || value > most) {
            throw new IllegalArgumentException("out of range");
        }
    }

    private static void requireKind(Event contest, char kind) {
        if (contest.kind != kind) {
            throw new UnsupportedOperationException("the event is of another kind");
        }
    }

    private static void requireOpen(Event contest) {
        if (contest.closed) {
            throw new IllegalStateException("the event is closed");
        }
    }

    private void requireRecord() {
        if (best.keepers == 0) {
            throw new NoSuchElementException("there is no record");
        }
    }

    private int nextMark() {
        marksTold++;
        return marksTold;
    }

    private void drawRace(Event race) {
        fieldNow.make(race, athletes);
        draw.make(race, fieldNow, athletes);
    }

    private void makeResults(Event contest) {
        fieldNow.make(contest, athletes);
        results.clear();
        if (contest.kind == 'r') {
            draw.make(contest, fieldNow, athletes);
            results.ofFinal(contest.finalMarks, draw);
        } else if (contest.kind == 'j') {
            results.ofJumps(contest.jumps, fieldNow);
        } else {
            results.ofThrows(contest.series, fieldNow);
        }
        results.rankAll(fieldNow);
    }

    private void seekRecord(Event contest) {
        makeResults(contest);
        best.clear();
        for (int i = 0; i < fieldNow.size; i++) {
            int athlete = fieldNow.members[i];
            if (contest.kind == 'r') {
                seekInRace(contest, athlete);
            } else if (contest.kind == 'j') {
                seekInJumps(contest.jumps, athlete);
            } else {
                seekInThrows(contest.series, athlete);
            }
        }
    }

    private void seekInRace(Event race, int athlete) {
        if (draw.heatCount > 0 && race.heatMarks.countsForRecord(athlete)) {
            best.consider(athlete, -race.heatMarks.times[athlete], race.heatMarks.toldAs[athlete]);
        }
        if (draw.placeInFinal(athlete) >= 0 && race.finalMarks.countsForRecord(athlete)) {
            best.consider(athlete, -race.finalMarks.times[athlete], race.finalMarks.toldAs[athlete]);
        }
    }

    private void seekInJumps(Jumps jumps, int athlete) {
        int highest = jumps.highestCleared(athlete);
        if (highest >= 0) {
            best.consider(athlete, jumps.heights[highest], jumps.clearedAs[athlete][highest]);
        }
    }

    private void seekInThrows(Throws series, int athlete) {
        int counting = results.throwsCounting[athlete];
        for (int i = 0; i < counting && i < THROWS; i++) {
            if (series.lengths[athlete][i] > 0) {
                best.consider(athlete, series.lengths[athlete][i], series.toldAs[athlete][i]);
            }
        }
    }

    private void countMedals() {
        table.clear();
        for (int number = 0; number < eventCount; number++) {
            Event contest = events[number];
            if (contest == null || !contest.closed) {
                continue;
            }
            makeResults(contest);
            for (int athlete = 0; athlete < athletes.count; athlete++) {
                if (results.has[athlete] && results.ranks[athlete] <= 3) {
                    table.give(athletes.nations[athlete], results.ranks[athlete]);
                }
            }
        }
    }

    /** The library that the program keeps to has no Float.floatToIntBits; shares are from 0 to 1. */
    private static int bitsOf(float share) {
        if (share <= 0f) {
            return 0;
        }
        float scaled = share;
        int exponent = 127;
        for (int i = 0; i < 126 && scaled < 1f; i++) {
            scaled = scaled * 2f;
            exponent--;
        }
        return (exponent << 23) + (int) (scaled * 8388608f) - 8388608;
    }

    // ---- what is told

    private static final class Athletes {
        private final int[] nations = new int[MOST_ATHLETES];
        private final boolean[] doped = new boolean[MOST_ATHLETES];
        private int count;
    }

    private static final class Event {
        private final int number;
        private final char kind;
        private final int standard;
        private final int quota;
        private final int limit;
        /** 0 for who has not entered. */
        private final int[] bests = new int[MOST_ATHLETES];
        private final boolean[] withdrawn = new boolean[MOST_ATHLETES];
        private final Round heatMarks = new Round();
        private final Round finalMarks = new Round();
        private final Jumps jumps = new Jumps();
        private final Throws series = new Throws();
        private int entries;
        private boolean closed;

        private Event(int number, char kind, int standard, int quota, int limit) {
            this.number = number;
            this.kind = kind;
            this.standard = standard;
            this.quota = quota;
            this.limit = limit;
        }

        private Round marksOf(int round) {
            return round == 0 ? heatMarks : finalMarks;
        }

        /** More is better in a worth, so that races, jumps and throws are compared alike. */
        private int worthOf(int result) {
            return kind == 'r' ? -result : result;
        }

        private int resultFrom(int worth) {
            return kind == 'r' ? -worth : worth;
        }

        private boolean isQualified(int athlete) {
            int told = bests[athlete];
            return told > 0 && !withdrawn[athlete] && worthOf(told) >= worthOf(standard);
        }
    }

    private static final class Round {
        /** The times as they count, 0 for who has none. */
        private final int[] times = new int[MOST_ATHLETES];
        private final int[] winds = new int[MOST_ATHLETES];
        private final int[] toldAs = new int[MOST_ATHLETES];
        private final boolean[] out = new boolean[MOST_ATHLETES];
        private final int[] outSince = new int[MOST_ATHLETES];
        private final boolean[] protested = new boolean[MOST_ATHLETES];

        private boolean counts(int athlete) {
            return times[athlete] > 0 && !out[athlete];
        }

        private boolean countsForRecord(int athlete) {
            return counts(athlete) && winds[athlete] <= RECORD_WIND;
        }

        private boolean exclude(int athlete, int minute) {
            if (out[athlete]) {
                return false;
            }
            out[athlete] = true;
            outSince[athlete] = minute;
            return true;
        }
    }

    private static final class Jumps {
        private final int[] heights = new int[MOST_BARS];
        private final int[][] failures = new int[MOST_ATHLETES][MOST_BARS];
        /** The number of the mark that cleared a height, 0 if none did. */
        private final int[][] clearedAs = new int[MOST_ATHLETES][MOST_BARS];
        private final int[] failuresInRow = new int[MOST_ATHLETES];
        /** How many heights there were when the athlete was over or passed last. */
        private final int[] doneWith = new int[MOST_ATHLETES];
        private int bars;

        private int lastHeight() {
            return bars > 0 && bars <= MOST_BARS ? heights[bars - 1] : 0;
        }

        private boolean hasTrial(int athlete) {
            return bars > 0 && doneWith[athlete] < bars && failuresInRow[athlete] < MOST_FAILURES;
        }

        private void mark(int athlete, char trial, int toldAs) {
            if (bars < 1 || bars > MOST_BARS) {
                return;
            }
            if (trial == 'x') {
                failures[athlete][bars - 1]++;
                failuresInRow[athlete]++;
                return;
            }
            doneWith[athlete] = bars;
            if (trial == 'o') {
                clearedAs[athlete][bars - 1] = toldAs;
                failuresInRow[athlete] = 0;
            }
        }

        /** The index of the height, -1 if none was cleared. */
        private int highestCleared(int athlete) {
            int highest = -1;
            for (int i = 0; i < MOST_BARS; i++) {
                if (clearedAs[athlete][i] > 0) {
                    highest = i;
                }
            }
            return highest;
        }

        private int failuresUpTo(int athlete, int highest) {
            int sum = 0;
            for (int i = 0; i <= highest && i < MOST_BARS; i++) {
                sum += failures[athlete][i];
            }
            return sum;
        }
    }

    private static final class Throws {
        private final int[][] lengths = new int[MOST_ATHLETES][THROWS];
        private final int[][] toldAs = new int[MOST_ATHLETES][THROWS];
        private final int[] counts = new int[MOST_ATHLETES];
    }

    private static final class Protests {
        private final Round[] rounds = new Round[MOST_PROTESTS];
        private final int[] protesters = new int[MOST_PROTESTS];
        private final boolean[] decided = new boolean[MOST_PROTESTS];
        private int count;
        private long kept;

        private int add(Round round, int athlete) {
            int added = count;
            if (added < MOST_PROTESTS) {
                rounds[added] = round;
                protesters[added] = athlete;
                count = added + 1;
            }
            return added;
        }

        private void settle(int number, boolean isUpheld) {
            decided[number] = true;
            Round round = rounds[number];
            if (!isUpheld) {
                kept += DEPOSIT;
            } else if (round != null) {
                round.out[protesters[number]] = false;
            }
        }
    }

    // ---- what the rules make of it

    private static final class FieldNow {
        private final int[] members = new int[MOST_IN_FIELD];
        private final boolean[] isIn = new boolean[MOST_ATHLETES];
        private final int[] inOrder = new int[MOST_ATHLETES];
        private final int[] ofNation = new int[NATIONS];
        private int size;

        private void make(Event event, Athletes athletes) {
            int candidates = order(event, athletes);
            for (int nation = 0; nation < NATIONS; nation++) {
                ofNation[nation] = 0;
            }
            size = 0;
            for (int i = 0; i < candidates && size < event.limit && size < MOST_IN_FIELD; i++) {
                int athlete = inOrder[i];
                int nation = athletes.nations[athlete];
                if (ofNation[nation] < event.quota) {
                    ofNation[nation]++;
                    isIn[athlete] = true;
                    members[size] = athlete;
                    size++;
                }
            }
        }

        private int order(Event event, Athletes athletes) {
            int candidates = 0;
            for (int athlete = 0; athlete < MOST_ATHLETES; athlete++) {
                isIn[athlete] = false;
                if (event.isQualified(athlete) && !athletes.doped[athlete]) {
                    insert(event, athlete, candidates);
                    candidates++;
                }
            }
            return candidates;
        }

        /** Stays behind those who are alike: they were inserted first and have the lower numbers. */
        private void insert(Event event, int athlete, int candidates) {
            int worth = event.worthOf(event.bests[athlete]);
            int at = candidates;
            while (at > 0 && worth > event.worthOf(event.bests[inOrder[at - 1]])) {
                inOrder[at] = inOrder[at - 1];
                at--;
            }
            inOrder[at] = athlete;
        }
    }

    private static final class RaceDraw {
        private final int[] heats = new int[MOST_ATHLETES];
        private final int[] inHeat = new int[MOST_HEATS];
        /** A bit for each nation that is in the heat. */
        private final int[] nationsInHeat = new int[MOST_HEATS];
        /** What the lesser of is ahead; NO_ARRIVAL for who has no place in the round 0. */
        private final int[] arrivals = new int[MOST_ATHLETES];
        /** 1 for a first of a heat, 2 for a second, 3 for the others. */
        private final int[] tiers = new int[MOST_ATHLETES];
        private final int[] finalists = new int[LANES];
        /** 0 if there is the final alone. */
        private int heatCount;
        private int finalSize;

        private void make(Event race, FieldNow field, Athletes athletes) {
            heatCount = field.size <= LANES ? 0 : (field.size + LANES - 1) / LANES;
            finalSize = 0;
            if (heatCount == 0) {
                takeAll(field);
            } else {
                seed(field, athletes);
                chooseFinalists(race, field);
            }
        }

        private void takeAll(FieldNow field) {
            for (int i = 0; i < field.size && i < LANES; i++) {
                heats[field.members[i]] = 0;
                finalists[i] = field.members[i];
                finalSize++;
            }
        }

        private void seed(FieldNow field, Athletes athletes) {
            for (int heat = 0; heat < MOST_HEATS; heat++) {
                inHeat[heat] = 0;
                nationsInHeat[heat] = 0;
            }
            int turn = 0;
            for (int i = 0; i < field.size; i++) {
                int athlete = field.members[i];
                int nation = athletes.nations[athlete];
                int taken = turnFor(nation, turn);
                int heat = heatAt(taken);
                heats[athlete] = heat;
                inHeat[heat]++;
                nationsInHeat[heat] |= 1 << nation;
                turn = taken + 1;
            }
        }

        /** The heat whose turn it is is the first of those that a nation without a free heat may get. */
        private int turnFor(int nation, int turn) {
            int withRoom = -1;
            for (int on = 0; on <= 2 * heatCount; on++) {
                int heat = heatAt(turn + on);
                if (inHeat[heat] >= LANES) {
                    continue;
                }
                if ((nationsInHeat[heat] & (1 << nation)) == 0) {
                    return turn + on;
                }
                if (withRoom < 0) {
                    withRoom = turn + on;
                }
            }
            return withRoom < 0 ? turn : withRoom;
        }

        private int heatAt(int turn) {
            if (heatCount < 1 || heatCount > MOST_HEATS || turn < 0) {
                return 0;
            }
            int step = turn % heatCount;
            return turn / heatCount % 2 == 0 ? step : heatCount - 1 - step;
        }

        private void chooseFinalists(Event race, FieldNow field) {
            for (int i = 0; i < field.size; i++) {
                int athlete = field.members[i];
                arrivals[athlete] = race.heatMarks.counts(athlete) ? arrivalOf(race, athlete) : NO_ARRIVAL;
            }
            for (int i = 0; i < field.size; i++) {
                int athlete = field.members[i];
                if (arrivals[athlete] != NO_ARRIVAL) {
                    tiers[athlete] = tierOf(field, athlete);
                    admit(athlete);
                }
            }
        }

        /** Times first, then lots; the lots of 30 athletes all differ, as 31 and 41 have no common divisor. */
        private static int arrivalOf(Event race, int athlete) {
            int lot = (31 * athlete + 17 * race.number + 7) % LOTS;
            return race.heatMarks.times[athlete] * LOTS + lot;
        }

        private int tierOf(FieldNow field, int athlete) {
            int tier = 1;
            for (int i = 0; i < field.size && tier < 3; i++) {
                int other = field.members[i];
                if (heats[other] == heats[athlete] && arrivals[other] != NO_ARRIVAL
                        && arrivals[other] < arrivals[athlete]) {
                    tier++;
                }
            }
            return tier;
        }

        private void admit(int athlete) {
            int at = finalSize;
            while (at > 0 && cameOutAhead(athlete, finalists[at - 1])) {
                at--;
            }
            if (at >= LANES) {
                return;
            }
            if (finalSize < LANES) {
                finalSize++;
            }
            for (int i = finalSize - 1; i > at; i--) {
                finalists[i] = finalists[i - 1];
            }
            finalists[at] = athlete;
        }

        private boolean cameOutAhead(int athlete, int other) {
            if (tiers[athlete] != tiers[other]) {
                return tiers[athlete] < tiers[other];
            }
            return arrivals[athlete] < arrivals[other];
        }

        /** From 0; -1 for who is in no heat. */
        private int placeInHeat(FieldNow field, int athlete) {
            if (heatCount == 0 || !field.isIn[athlete]) {
                return -1;
            }
            int place = 0;
            for (int i = 0; i < field.size && field.members[i] != athlete; i++) {
                if (heats[field.members[i]] == heats[athlete]) {
                    place++;
                }
            }
            return place;
        }

        /** From 0; -1 for who is not in the final. */
        private int placeInFinal(int athlete) {
            for (int i = 0; i < finalSize && i < LANES; i++) {
                if (finalists[i] == athlete) {
                    return i;
                }
            }
            return -1;
        }

        private boolean hasLanesOfTheirOwn() {
            if (finalSize > LANES) {
                return false;
            }
            int taken = 0;
            for (int i = 0; i < finalSize; i++) {
                int place = placeInFinal(finalists[i]);
                if (place < 0 || (taken & (1 << LANE_ORDER[place])) != 0) {
                    return false;
                }
                taken |= 1 << LANE_ORDER[place];
            }
            return true;
        }
    }

    private static final class Results {
        private final boolean[] has = new boolean[MOST_ATHLETES];
        /** What is compared, first by the first; more is better. */
        private final int[][] worths = new int[MOST_ATHLETES][THROWS];
        private final int[] ranks = new int[MOST_ATHLETES];
        private final int[] throwsCounting = new int[MOST_ATHLETES];

        private void clear() {
            for (int athlete = 0; athlete < MOST_ATHLETES; athlete++) {
                has[athlete] = false;
                throwsCounting[athlete] = 0;
                for (int i = 0; i < THROWS; i++) {
                    worths[athlete][i] = 0;
                }
            }
        }

        private void ofFinal(Round marks, RaceDraw draw) {
            for (int i = 0; i < draw.finalSize && i < LANES; i++) {
                int athlete = draw.finalists[i];
                if (marks.counts(athlete)) {
                    has[athlete] = true;
                    worths[athlete][0] = -marks.times[athlete];
                }
            }
        }

        private void ofJumps(Jumps jumps, FieldNow field) {
            for (int i = 0; i < field.size; i++) {
                int athlete = field.members[i];
                int highest = jumps.highestCleared(athlete);
                if (highest >= 0) {
                    has[athlete] = true;
                    worths[athlete][0] = jumps.heights[highest];
                    worths[athlete][1] = -jumps.failures[athlete][highest];
                    worths[athlete][2] = -jumps.failuresUpTo(athlete, highest);
                }
            }
        }

        /** Who goes on is settled for all before any later throw is looked at. */
        private void ofThrows(Throws series, FieldNow field) {
            for (int i = 0; i < field.size; i++) {
                takeThrows(series, field.members[i], FIRST_THROWS);
            }
            for (int i = 0; i < field.size; i++) {
                int athlete = field.members[i];
                boolean goesOn = has[athlete] && countBetter(field, athlete) < MOST_GOING_ON;
                throwsCounting[athlete] = goesOn ? THROWS : FIRST_THROWS;
            }
            for (int i = 0; i < field.size; i++) {
                takeThrows(series, field.members[i], throwsCounting[field.members[i]]);
            }
        }

        private void takeThrows(Throws series, int athlete, int counting) {
            int[] sorted = worths[athlete];
            for (int i = 0; i < THROWS; i++) {
                int length = i < counting ? series.lengths[athlete][i] : 0;
                int at = i;
                while (at > 0 && length > sorted[at - 1]) {
                    sorted[at] = sorted[at - 1];
                    at--;
                }
                sorted[at] = length;
            }
            has[athlete] = sorted[0] > 0;
        }

        private void rankAll(FieldNow field) {
            for (int i = 0; i < field.size; i++) {
                int athlete = field.members[i];
                ranks[athlete] = has[athlete] ? 1 + countBetter(field, athlete) : 0;
            }
        }

        private int countBetter(FieldNow field, int athlete) {
            int better = 0;
            for (int i = 0; i < field.size; i++) {
                int other = field.members[i];
                if (has[other] && isBetter(other, athlete)) {
                    better++;
                }
            }
            return better;
        }

        private boolean isBetter(int athlete, int other) {
            for (int i = 0; i < THROWS; i++) {
                if (worths[athlete][i] != worths[other][i]) {
                    return worths[athlete][i] > worths[other][i];
                }
            }
            return false;
        }

        /** In whole hundredths first: halves go to the even one, as Math.rint has it. */
        private double pointsFor(int athlete) {
            int alike = 0;
            for (int other = 0; other < MOST_ATHLETES; other++) {
                if (has[other] && ranks[other] == ranks[athlete]) {
                    alike++;
                }
            }
            if (alike < 1) {
                return 0.0;
            }
            int sum = 0;
            for (int place = ranks[athlete]; place < ranks[athlete] + alike; place++) {
                sum += place <= POINT_PLACES ? POINT_PLACES + 1 - place : 0;
            }
            int hundredths = sum * 100 / alike;
            int rest = sum * 100 - hundredths * alike;
            if (rest * 2 > alike || rest * 2 == alike && hundredths % 2 != 0) {
                hundredths++;
            }
            return (double) hundredths / 100.0;
        }

        private boolean areWithin(FieldNow field) {
            for (int athlete = 0; athlete < MOST_ATHLETES; athlete++) {
                if (has[athlete] && !field.isIn[athlete]) {
                    return false;
                }
            }
            return true;
        }
    }

    private static final class RecordMark {
        private int worth;
        private int keeper;
        private int toldAs;
        private int lastConsidered;
        /** 0 if there is no record. */
        private int keepers;

        private void clear() {
            keepers = 0;
        }

        /** All marks of one athlete are considered in a row, so that nobody shares with himself. */
        private void consider(int athlete, int itsWorth, int itsTold) {
            if (keepers == 0 || itsWorth > worth) {
                worth = itsWorth;
                keeper = athlete;
                toldAs = itsTold;
                lastConsidered = athlete;
                keepers = 1;
                return;
            }
            if (itsWorth < worth) {
                return;
            }
            if (athlete != lastConsidered) {
                lastConsidered = athlete;
                keepers++;
            }
            if (itsTold < toldAs) {
                keeper = athlete;
                toldAs = itsTold;
            }
        }
    }

    private static final class MedalTable {
        /** By nation: all medals, gold, silver, bronze. */
        private final int[][] counts = new int[NATIONS][4];
        private int given;

        private void clear() {
            given = 0;
            for (int nation = 0; nation < NATIONS; nation++) {
                for (int rank = 0; rank < 4; rank++) {
                    counts[nation][rank] = 0;
                }
            }
        }

        private void give(int nation, int rank) {
            if (nation >= 0 && nation < NATIONS && rank >= 1 && rank <= 3) {
                counts[nation][rank]++;
                counts[nation][0]++;
            }
            given++;
        }

        private int nationAt(int index, boolean byAll) {
            for (int nation = 0; nation < NATIONS; nation++) {
                int ahead = 0;
                for (int other = 0; other < NATIONS; other++) {
                    if (isAhead(other, nation, byAll)) {
                        ahead++;
                    }
                }
                if (ahead == index) {
                    return nation;
                }
            }
            return 0;
        }

        private boolean isAhead(int nation, int other, boolean byAll) {
            for (int rank = byAll ? 0 : 1; rank < 4; rank++) {
                if (counts[nation][rank] != counts[other][rank]) {
                    return counts[nation][rank] > counts[other][rank];
                }
            }
            return nation < other;
        }

        private int sumOfNations() {
            int sum = 0;
            for (int nation = 0; nation < NATIONS; nation++) {
                sum += counts[nation][1] + counts[nation][2] + counts[nation][3];
            }
            return sum;
        }
    }
}
