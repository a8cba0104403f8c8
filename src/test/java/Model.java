import java.util.ArrayList;
import java.util.Comparator;
import java.util.HashMap;
import java.util.HashSet;
import java.util.List;
import java.util.Map;
import java.util.NoSuchElementException;
import java.util.Set;
import java.util.TreeMap;
import java.util.stream.Collectors;
import java.util.stream.IntStream;

/**
 * The document once more, written with lists and maps and without a thought for speed or room:
 * ModelTest holds the class against it over long random runs.
 */
final class Model {
    private record Mark(int time, int wind, int told) {
    }

    private record Key(int round, int athlete) {
    }

    private record Trial(int bar, char trial, int told) {
    }

    private record Throw(int length, int told) {
    }

    private record Worth(int athlete, int value, int told) {
    }

    private static final class Contest {
        int number;
        char kind;
        int standard;
        int quota;
        int limit;
        boolean closed;
        final Map<Integer, Integer> bests = new TreeMap<>();
        final Set<Integer> withdrawn = new HashSet<>();
        final Map<Key, Mark> marks = new HashMap<>();
        final Map<Key, Integer> out = new HashMap<>();
        final Set<Key> protested = new HashSet<>();
        final List<Integer> bars = new ArrayList<>();
        final Map<Integer, List<Trial>> trials = new HashMap<>();
        final Map<Integer, List<Throw>> series = new HashMap<>();
    }

    private record Protest(Contest contest, Key key) {
    }

    private final List<Integer> nations = new ArrayList<>();
    private final Set<Integer> doped = new HashSet<>();
    private final List<Contest> contests = new ArrayList<>();
    private final List<Protest> protests = new ArrayList<>();
    private final Set<Integer> decided = new HashSet<>();
    private int minute;
    private int told;
    private long kept;

    // ---- what is told

    int athlete(int nation) {
        argument(nation >= 0 && nation <= 7);
        state(nations.size() < 30);
        nations.add(nation);
        return nations.size() - 1;
    }

    int event(char kind, int standard, int quota, int limit) {
        argument("rjt".indexOf(kind) >= 0 && within(standard, 1, 999999) && within(quota, 1, 5)
                && within(limit, 2, 24));
        state(contests.size() < 5);
        Contest made = new Contest();
        made.number = contests.size();
        made.kind = kind;
        made.standard = standard;
        made.quota = quota;
        made.limit = limit;
        contests.add(made);
        return made.number;
    }

    int enter(int event, int athlete, int best) {
        Contest contest = of(event, athlete);
        argument(within(best, 1, 999999));
        state(!contest.closed);
        contest.bests.put(athlete, best);
        return contest.bests.size();
    }

    boolean withdraw(int event, int athlete, boolean is) {
        Contest contest = of(event, athlete);
        there(contest.bests.containsKey(athlete));
        state(!contest.closed);
        return is ? !contest.withdrawn.add(athlete) : contest.withdrawn.remove(athlete);
    }

    int field(int event) {
        return fieldOf(of(event)).size();
    }

    int inField(int event, int index) {
        return at(fieldOf(of(event)), index);
    }

    int pass(int minutes) {
        argument(within(minutes, 1, 9999));
        minute += minutes;
        return minute;
    }

    // ---- races

    int heatOf(int event, int athlete) {
        Contest race = of(event, athlete);
        kind(race, 'r');
        List<Integer> field = fieldOf(race);
        there(field.contains(athlete));
        List<List<Integer>> heats = heatsOf(race);
        return IntStream.range(0, heats.size()).filter(i -> heats.get(i).contains(athlete)).findFirst().orElse(0);
    }

    int laneOf(int event, int round, int athlete) {
        Contest race = of(event, athlete);
        argument(within(round, 0, 1));
        kind(race, 'r');
        List<Integer> line = List.of();
        if (round == 1) {
            line = finalOf(race);
        } else {
            for (List<Integer> heat : heatsOf(race)) {
                line = heat.contains(athlete) ? heat : line;
            }
        }
        there(line.contains(athlete));
        return List.of(4, 5, 3, 6, 7, 8, 1, 2).get(line.indexOf(athlete));
    }

    int time(int event, int round, int athlete, int thousandths, boolean byHand, int wind) {
        Contest race = of(event, athlete);
        argument(within(round, 0, 1) && within(thousandths, 1, 999999) && within(wind, -99, 99));
        kind(race, 'r');
        state(!race.closed);
        int counts = thousandths;
        if (byHand) {
            while (counts % 100 != 0) {
                counts++;
            }
            counts += 240;
        }
        race.marks.put(new Key(round, athlete), new Mark(counts, wind, ++told));
        return counts / 10 + (counts % 10 > 0 ? 1 : 0);
    }

    boolean react(int event, int round, int athlete, int thousandths) {
        Contest race = of(event, athlete);
        argument(within(round, 0, 1) && within(thousandths, 0, 999));
        kind(race, 'r');
        Key key = new Key(round, athlete);
        state(!race.closed && !race.out.containsKey(key));
        if (thousandths < 100) {
            race.out.put(key, minute);
        }
        return thousandths < 100;
    }

    boolean putOut(int event, int round, int athlete) {
        Contest race = of(event, athlete);
        argument(within(round, 0, 1));
        kind(race, 'r');
        state(!race.closed);
        return race.out.putIfAbsent(new Key(round, athlete), minute) == null;
    }

    boolean isOut(int event, int round, int athlete) {
        Contest race = of(event, athlete);
        argument(within(round, 0, 1));
        kind(race, 'r');
        return race.out.containsKey(new Key(round, athlete));
    }

    int inFinal(int event, int index) {
        Contest race = of(event);
        kind(race, 'r');
        return at(finalOf(race), index);
    }

    // ---- jumps and throws

    int bar(int event, int height) {
        Contest contest = of(event);
        int before = contest.bars.isEmpty() ? 0 : contest.bars.get(contest.bars.size() - 1);
        argument(within(height, 1, 999) && height > before);
        kind(contest, 'j');
        state(!contest.closed && contest.bars.size() < 10);
        contest.bars.add(height);
        return contest.bars.size();
    }

    int jump(int event, int athlete, char trial) {
        Contest contest = of(event, athlete);
        argument("ox-".indexOf(trial) >= 0);
        kind(contest, 'j');
        state(!contest.closed && !contest.bars.isEmpty());
        List<Trial> trials = contest.trials.computeIfAbsent(athlete, a -> new ArrayList<>());
        int bar = contest.bars.size() - 1;
        state(trials.stream().noneMatch(t -> t.bar == bar && t.trial != 'x'));
        state(trials.stream().filter(t -> t.bar == bar).count() < 3);
        state(inARow(trials) < 3);
        trials.add(new Trial(bar, trial, ++told));
        return inARow(trials);
    }

    private static int inARow(List<Trial> trials) {
        int failures = 0;
        for (Trial trial : trials) {
            failures = trial.trial == 'o' ? 0 : trial.trial == 'x' ? failures + 1 : failures;
        }
        return failures;
    }

    int put(int event, int athlete, int length) {
        Contest contest = of(event, athlete);
        argument(within(length, 0, 9999));
        kind(contest, 't');
        List<Throw> series = contest.series.computeIfAbsent(athlete, a -> new ArrayList<>());
        state(!contest.closed && series.size() < 6);
        series.add(new Throw(length, ++told));
        return series.size();
    }

    // ---- ranks, protests, doping

    int rankOf(int event, int athlete) {
        Map<Integer, List<Integer>> results = resultsOf(of(event, athlete));
        there(results.containsKey(athlete));
        return rank(results, athlete);
    }

    int resultOf(int event, int athlete) {
        Map<Integer, List<Integer>> results = resultsOf(of(event, athlete));
        there(results.containsKey(athlete));
        return Math.abs(results.get(athlete).get(0));
    }

    int protest(int event, int round, int athlete) {
        Contest race = of(event, athlete);
        argument(within(round, 0, 1));
        kind(race, 'r');
        Key key = new Key(round, athlete);
        state(race.out.containsKey(key) && race.out.get(key) + 30 >= minute && race.protested.add(key));
        protests.add(new Protest(race, key));
        return protests.size() - 1;
    }

    long decide(int protest, boolean isUpheld) {
        index(protest >= 0 && protest < protests.size());
        state(decided.add(protest));
        Protest which = protests.get(protest);
        if (isUpheld) {
            which.contest.out.remove(which.key);
        } else {
            kept += 100;
        }
        return kept;
    }

    boolean dope(int athlete, boolean is) {
        index(athlete >= 0 && athlete < nations.size());
        return is ? !doped.add(athlete) : doped.remove(athlete);
    }

    boolean close(int event, boolean is) {
        Contest contest = of(event);
        boolean was = contest.closed;
        contest.closed = is;
        return was;
    }

    int record(int event) {
        List<Worth> records = recordsOf(of(event));
        there(!records.isEmpty());
        return Math.abs(records.get(0).value);
    }

    int holder(int event) {
        List<Worth> records = recordsOf(of(event));
        there(!records.isEmpty());
        return records.stream().min(Comparator.comparingInt(Worth::told)).get().athlete;
    }

    int sharers(int event) {
        return (int) recordsOf(of(event)).stream().map(Worth::athlete).distinct().count();
    }

    int medals(int nation, int rank) {
        argument(within(nation, 0, 7) && within(rank, 0, 3));
        return countMedals(nation, rank);
    }

    int inTable(int index, boolean byAll) {
        argument(within(index, 0, 7));
        List<Integer> ranks = byAll ? List.of(0, 1, 2, 3) : List.of(1, 2, 3);
        Comparator<Integer> order = Comparator.comparing(n -> 0);
        for (int rank : ranks) {
            order = order.thenComparing(n -> -countMedals(n, rank));
        }
        return IntStream.range(0, 8).boxed().sorted(order).toList().get(index);
    }

    double points(int nation) {
        argument(within(nation, 0, 7));
        double sum = 0;
        for (Contest contest : contests) {
            Map<Integer, List<Integer>> results = contest.closed ? resultsOf(contest) : Map.of();
            for (int athlete = 0; athlete < nations.size(); athlete++) {
                if (results.containsKey(athlete) && nations.get(athlete) == nation) {
                    int first = rank(results, athlete);
                    List<Integer> own = results.get(athlete);
                    int alike = (int) results.values().stream().filter(own::equals).count();
                    int all = IntStream.range(first, first + alike).map(p -> Math.max(0, 9 - p)).sum();
                    sum += Math.rint((double) all / alike * 100) / 100;
                }
            }
        }
        return sum;
    }

    int shareBits(int nation) {
        argument(within(nation, 0, 7));
        int all = IntStream.range(0, 8).map(n -> countMedals(n, 0)).sum();
        if (all == 0) {
            throw new ArithmeticException();
        }
        return Float.floatToIntBits((float) countMedals(nation, 0) / (float) all);
    }

    boolean isTrue() {
        return true;
    }

    // ---- the rules

    private List<Integer> fieldOf(Contest contest) {
        int sign = contest.kind == 'r' ? 1 : -1;
        List<Integer> candidates = contest.bests.keySet().stream()
                .filter(a -> !contest.withdrawn.contains(a) && !doped.contains(a))
                .filter(a -> sign * contest.bests.get(a) <= sign * contest.standard)
                .sorted(Comparator.comparing((Integer a) -> sign * contest.bests.get(a)).thenComparing(a -> a))
                .toList();
        List<Integer> field = new ArrayList<>();
        for (int athlete : candidates) {
            long ofNation = field.stream().filter(a -> nations.get(a).equals(nations.get(athlete))).count();
            if (field.size() < contest.limit && ofNation < contest.quota) {
                field.add(athlete);
            }
        }
        return field;
    }

    /** The heats of the round 0; none if there is the final alone. */
    private List<List<Integer>> heatsOf(Contest race) {
        List<Integer> field = fieldOf(race);
        List<List<Integer>> heats = new ArrayList<>();
        for (int i = 0; field.size() > 8 && i * 8 < field.size(); i++) {
            heats.add(new ArrayList<>());
        }
        List<List<Integer>> turns = new ArrayList<>();
        for (int i = 0; i < 200; i++) {
            turns.addAll(heats);
            List<List<Integer>> back = new ArrayList<>(heats);
            java.util.Collections.reverse(back);
            turns.addAll(back);
        }
        for (int athlete : heats.isEmpty() ? List.<Integer>of() : field) {
            List<List<Integer>> withRoom = turns.subList(0, 2 * heats.size()).stream()
                    .filter(heat -> heat.size() < 8).toList();
            List<Integer> heat = withRoom.stream()
                    .filter(h -> h.stream().noneMatch(a -> nations.get(a).equals(nations.get(athlete))))
                    .findFirst().orElse(withRoom.get(0));
            while (turns.remove(0) != heat) {
                continue;
            }
            heat.add(athlete);
        }
        return heats;
    }

    private boolean counts(Contest race, int round, int athlete) {
        Key key = new Key(round, athlete);
        return race.marks.containsKey(key) && !race.out.containsKey(key);
    }

    private List<Integer> finalOf(Contest race) {
        List<List<Integer>> heats = heatsOf(race);
        if (heats.isEmpty()) {
            return fieldOf(race);
        }
        Comparator<Integer> byTime = Comparator
                .comparing((Integer a) -> race.marks.get(new Key(0, a)).time)
                .thenComparing(a -> (31 * a + 17 * race.number + 7) % 41).thenComparing(a -> a);
        List<List<Integer>> groups = List.of(new ArrayList<>(), new ArrayList<>(), new ArrayList<>());
        for (List<Integer> heat : heats) {
            List<Integer> arrived = heat.stream().filter(a -> counts(race, 0, a)).sorted(byTime).toList();
            for (int i = 0; i < arrived.size(); i++) {
                groups.get(Math.min(i, 2)).add(arrived.get(i));
            }
        }
        return groups.stream().flatMap(group -> group.stream().sorted(byTime)).limit(8)
                .collect(Collectors.toList());
    }

    /** For who has a result: what is compared, more being better. */
    private Map<Integer, List<Integer>> resultsOf(Contest contest) {
        Map<Integer, List<Integer>> results = new TreeMap<>();
        if (contest.kind == 'r') {
            finalOf(contest).stream().filter(a -> counts(contest, 1, a))
                    .forEach(a -> results.put(a, List.of(-contest.marks.get(new Key(1, a)).time)));
        } else if (contest.kind == 'j') {
            fieldOf(contest).forEach(a -> jumped(contest, a, results));
        } else {
            Set<Integer> goingOn = goingOn(contest);
            for (int athlete : fieldOf(contest)) {
                List<Integer> sorted = sorted(contest, athlete, goingOn.contains(athlete) ? 6 : 3);
                if (sorted.get(0) > 0) {
                    results.put(athlete, sorted);
                }
            }
        }
        return results;
    }

    private static void jumped(Contest contest, int athlete, Map<Integer, List<Integer>> results) {
        List<Trial> trials = contest.trials.getOrDefault(athlete, List.of());
        int best = trials.stream().filter(t -> t.trial == 'o').mapToInt(Trial::bar).max().orElse(-1);
        if (best >= 0) {
            List<Trial> failed = trials.stream().filter(t -> t.trial == 'x').toList();
            int there = (int) failed.stream().filter(t -> t.bar == best).count();
            int upTo = (int) failed.stream().filter(t -> t.bar <= best).count();
            results.put(athlete, List.of(contest.bars.get(best), -there, -upTo));
        }
    }

    private static List<Integer> sorted(Contest contest, int athlete, int counting) {
        List<Integer> lengths = new ArrayList<>(contest.series.getOrDefault(athlete, List.of()).stream()
                .limit(counting).map(Throw::length).sorted(Comparator.reverseOrder()).toList());
        while (lengths.size() < 6) {
            lengths.add(0);
        }
        return lengths;
    }

    private Set<Integer> goingOn(Contest contest) {
        List<Integer> able = fieldOf(contest).stream().filter(a -> sorted(contest, a, 3).get(0) > 0)
                .sorted((a, b) -> compare(sorted(contest, b, 3), sorted(contest, a, 3))).toList();
        if (able.size() <= 8) {
            return new HashSet<>(able);
        }
        List<Integer> eighth = sorted(contest, able.get(7), 3);
        Set<Integer> goingOn = new HashSet<>(able.subList(0, 8));
        able.stream().filter(a -> sorted(contest, a, 3).equals(eighth)).forEach(goingOn::add);
        return goingOn;
    }

    private static int compare(List<Integer> one, List<Integer> other) {
        for (int i = 0; i < one.size(); i++) {
            if (!one.get(i).equals(other.get(i))) {
                return one.get(i).compareTo(other.get(i));
            }
        }
        return 0;
    }

    private static int rank(Map<Integer, List<Integer>> results, int athlete) {
        return 1 + (int) results.values().stream().filter(w -> compare(w, results.get(athlete)) > 0).count();
    }

    /** All marks that are as good as the record. */
    private List<Worth> recordsOf(Contest contest) {
        List<Worth> worths = new ArrayList<>();
        List<Integer> field = fieldOf(contest);
        if (contest.kind == 'r') {
            List<Integer> last = finalOf(contest);
            for (int round = 0; round < 2; round++) {
                for (int athlete : round == 1 ? last : field.size() > 8 ? field : List.<Integer>of()) {
                    Mark mark = contest.marks.get(new Key(round, athlete));
                    if (counts(contest, round, athlete) && mark.wind <= 20) {
                        worths.add(new Worth(athlete, -mark.time, mark.told));
                    }
                }
            }
        } else if (contest.kind == 'j') {
            for (int athlete : field) {
                contest.trials.getOrDefault(athlete, List.of()).stream().filter(t -> t.trial == 'o')
                        .forEach(t -> worths.add(new Worth(athlete, contest.bars.get(t.bar), t.told)));
            }
        } else {
            Set<Integer> goingOn = goingOn(contest);
            for (int athlete : field) {
                contest.series.getOrDefault(athlete, List.of()).stream()
                        .limit(goingOn.contains(athlete) ? 6 : 3).filter(t -> t.length > 0)
                        .forEach(t -> worths.add(new Worth(athlete, t.length, t.told)));
            }
        }
        int best = worths.stream().mapToInt(Worth::value).max().orElse(0);
        return worths.stream().filter(w -> w.value == best).toList();
    }

    private int countMedals(int nation, int rank) {
        int count = 0;
        for (Contest contest : contests) {
            Map<Integer, List<Integer>> results = contest.closed ? resultsOf(contest) : Map.of();
            for (int athlete : results.keySet()) {
                int own = rank(results, athlete);
                if (nations.get(athlete) == nation && own <= 3 && (rank == 0 || rank == own)) {
                    count++;
                }
            }
        }
        return count;
    }

    // ---- exceptions

    private Contest of(int event) {
        index(event >= 0 && event < contests.size());
        return contests.get(event);
    }

    private Contest of(int event, int athlete) {
        Contest contest = of(event);
        index(athlete >= 0 && athlete < nations.size());
        return contest;
    }

    private static int at(List<Integer> list, int index) {
        there(index >= 0 && index < list.size());
        return list.get(index);
    }

    private static boolean within(int value, int least, int most) {
        return value >= least && value <= most;
    }

    private static void index(boolean holds) {
        if (!holds) {
            throw new IndexOutOfBoundsException();
        }
    }

    private static void argument(boolean holds) {
        if (!holds) {
            throw new IllegalArgumentException();
        }
    }

    private static void kind(Contest contest, char kind) {
        if (contest.kind != kind) {
            throw new UnsupportedOperationException();
        }
    }

    private static void there(boolean holds) {
        if (!holds) {
            throw new NoSuchElementException();
        }
    }

    private static void state(boolean holds) {
        if (!holds) {
            throw new IllegalStateException();
        }
    }
}
