import java.util.ArrayList;
import java.util.Arrays;
import java.util.Comparator;
import java.util.HashSet;
import java.util.List;
import java.util.Set;

/**
 * The document once more, as near to its words as can be and without regard to time or room:
 * what OracleTest holds TuneFinder against.
 */
final class PlainFinder {
    /** A note. */
    record Note(int pitch, int length) {
    }

    /** A passage that was found, with all that match tells of it. */
    record Hit(int id, int place, int span, int higher, int c, int m) {
        int upper() {
            return c * c / shared();
        }

        int lower() {
            return m * span / shared();
        }

        private int shared() {
            int a = c * c;
            int b = m * span;
            while (b != 0) {
                int rest = a % b;
                a = b;
                b = rest;
            }
            return a;
        }

        double score() {
            return (double) (c * c) / (m * span);
        }
    }

    /** A repeat. */
    record Again(int first, int steps, int places) {
    }

    private static final class Tune {
        final List<List<Note>> readings = new ArrayList<>(List.of(new ArrayList<>()));
        boolean shown;

        List<Note> now() {
            return readings.get(readings.size() - 1);
        }
    }

    private final Tune[] tunes = new Tune[8];
    private final List<Note> query = new ArrayList<>();
    private List<Hit> kept = new ArrayList<>();

    private static void index(boolean fits) {
        if (!fits) {
            throw new IndexOutOfBoundsException();
        }
    }

    private static void argument(boolean fits) {
        if (!fits) {
            throw new IllegalArgumentException();
        }
    }

    private static void state(boolean fits) {
        if (!fits) {
            throw new IllegalStateException();
        }
    }

    private static boolean within(int value, int least, int most) {
        return least <= value && value <= most;
    }

    private static boolean isNote(int pitch, int length) {
        return within(pitch, 0, 127) && within(length, 1, 64);
    }

    private Tune get(int id) {
        index(within(id, 0, 7) && tunes[id] != null);
        return tunes[id];
    }

    private static int[] steps(List<Note> notes) {
        int[] steps = new int[Math.max(0, notes.size() - 1)];
        for (int i = 0; i < steps.length; i++) {
            steps[i] = notes.get(i + 1).pitch() - notes.get(i).pitch();
        }
        return steps;
    }

    void tune(int id) {
        index(within(id, 0, 7));
        state(tunes[id] == null);
        tunes[id] = new Tune();
    }

    void drop(int id) {
        get(id);
        tunes[id] = null;
    }

    int note(int id, int pitch, int length) {
        Tune tune = get(id);
        argument(isNote(pitch, length));
        state(!tune.shown && tune.readings.size() == 1 && tune.now().size() < 20);
        tune.now().add(new Note(pitch, length));
        return tune.now().size();
    }

    void show(int id, boolean on) {
        Tune tune = get(id);
        state(tune.shown != on && tune.now().size() >= 2);
        tune.shown = on;
    }

    int correct(int id, int place, int pitch, int length) {
        Tune tune = get(id);
        index(within(place, 0, tune.now().size() - 1));
        argument(isNote(pitch, length));
        state(tune.readings.size() < 9);
        List<Note> next = new ArrayList<>(tune.now());
        next.set(place, new Note(pitch, length));
        tune.readings.add(next);
        return tune.readings.size() - 1;
    }

    void restore(int id, int reading) {
        Tune tune = get(id);
        index(within(reading, 0, tune.readings.size() - 1));
        tune.readings.subList(reading + 1, tune.readings.size()).clear();
    }

    int at(int id, int place, int what, int reading) {
        Tune tune = get(id);
        index(within(place, 0, tune.now().size() - 1));
        index(within(reading, -1, tune.readings.size() - 1));
        argument(within(what, 0, 2));
        List<Note> notes = reading == -1 ? tune.now() : tune.readings.get(reading);
        if (what == 2) {
            return place == notes.size() - 1 ? 0 : steps(notes)[place];
        }
        return what == 0 ? notes.get(place).pitch() : notes.get(place).length();
    }

    int about(int id, int what) {
        Tune tune = get(id);
        argument(within(what, 0, 2));
        return new int[] {tune.now().size(), tune.shown ? 1 : 0, tune.readings.size()}[what];
    }

    int contour(int id, int i) {
        int[] steps = steps(get(id).now());
        return within(i, 0, steps.length - 1) ? "dsu".charAt(Integer.signum(steps[i]) + 1) : -1;
    }

    int ask(int pitch, int length) {
        argument(isNote(pitch, length));
        state(query.size() < 8);
        query.add(new Note(pitch, length));
        return query.size();
    }

    void forget() {
        query.clear();
    }

    int search(int kind, int k) {
        argument(within(kind, 0, 5) && within(k, 0, 4));
        state(query.size() >= 2);
        List<Hit> hits = new ArrayList<>();
        for (int id = 0; id < 8; id++) {
            if (tunes[id] == null || !tunes[id].shown) {
                continue;
            }
            List<Note> notes = tunes[id].now();
            for (int place = 0; place < notes.size(); place++) {
                for (int end = place + 2; end <= notes.size(); end++) {
                    List<Note> passage = notes.subList(place, end);
                    if (isFound(kind, k, passage)) {
                        int c = kind == 5 ? 1 + way(steps(passage), steps(query))[1] : query.size();
                        int higher = passage.get(0).pitch() - query.get(0).pitch();
                        hits.add(new Hit(id, place, end - place, higher, c, query.size()));
                    }
                }
            }
        }
        hits.sort(Comparator.comparingDouble((Hit hit) -> -hit.score()).thenComparingInt(Hit::id)
                .thenComparingInt(Hit::place).thenComparingInt(Hit::span));
        kept = hits.size() > 30 ? hits.subList(0, 30) : hits;
        return hits.size();
    }

    private boolean isFound(int kind, int k, List<Note> passage) {
        if (kind == 4) {
            int higher = passage.get(0).pitch() - query.get(0).pitch();
            return outlines(passage, 0, 0, higher, k);
        }
        if (kind == 5) {
            int n = passage.size();
            return isNear(passage, k)
                    && (n == 2 || !isNear(passage.subList(1, n), k) && !isNear(passage.subList(0, n - 1), k));
        }
        if (passage.size() != query.size()) {
            return false;
        }
        boolean melody = Arrays.equals(steps(passage), steps(query));
        switch (kind) {
            case 0:
                return melody && sameNeighbourRatios(passage);
            case 1:
                return melody;
            case 2:
                return Arrays.equals(Arrays.stream(steps(passage)).map(Integer::signum).toArray(),
                        Arrays.stream(steps(query)).map(Integer::signum).toArray());
            default:
                return sameRatios(passage);
        }
    }

    private boolean sameNeighbourRatios(List<Note> passage) {
        for (int i = 0; i + 1 < query.size(); i++) {
            if (passage.get(i).length() * query.get(i + 1).length()
                    != passage.get(i + 1).length() * query.get(i).length()) {
                return false;
            }
        }
        return true;
    }

    private boolean sameRatios(List<Note> passage) {
        for (int i = 0; i < query.size(); i++) {
            for (int j = 0; j < i; j++) {
                if (passage.get(i).length() * query.get(j).length()
                        != passage.get(j).length() * query.get(i).length()) {
                    return false;
                }
            }
        }
        return true;
    }

    /** Whether the query from a note on is an outline of the passage from a place on, both ends fixed. */
    private boolean outlines(List<Note> passage, int place, int asked, int higher, int k) {
        if (passage.get(place).pitch() != query.get(asked).pitch() + higher) {
            return false;
        }
        if (asked == query.size() - 1) {
            return place == passage.size() - 1;
        }
        for (int next = place + 1; next <= place + 1 + k && next < passage.size(); next++) {
            if (outlines(passage, next, asked + 1, higher, k)) {
                return true;
            }
        }
        return false;
    }

    private boolean isNear(List<Note> passage, int k) {
        return way(steps(passage), steps(query))[0] <= k;
    }

    /**
     * The least number of changes between two rows, and the most steps that stay in so many. Told by
     * the steps that stay: between two of them, the longer of the two gaps is the number of changes.
     */
    static int[] way(int[] one, int[] two) {
        int[][][] best = new int[one.length + 1][two.length + 1][];
        for (int i = one.length; i >= 0; i--) {
            for (int j = two.length; j >= 0; j--) {
                int[] least = {Math.max(one.length - i, two.length - j), 0};
                for (int a = i; a < one.length; a++) {
                    for (int b = j; b < two.length; b++) {
                        if (one[a] == two[b]) {
                            int changes = Math.max(a - i, b - j) + best[a + 1][b + 1][0];
                            int staying = 1 + best[a + 1][b + 1][1];
                            if (changes < least[0] || changes == least[0] && staying > least[1]) {
                                least = new int[] {changes, staying};
                            }
                        }
                    }
                }
                best[i][j] = least;
            }
        }
        return best[0][0];
    }

    int match(int i, int what) {
        index(within(i, 0, kept.size() - 1));
        argument(within(what, 0, 5));
        Hit hit = kept.get(i);
        return new int[] {hit.id(), hit.place(), hit.span(), hit.higher(), hit.upper(), hit.lower()}[what];
    }

    private static List<Again> allRepeats(int[] steps, int least) {
        Set<List<Integer>> rows = new HashSet<>();
        for (int from = 0; from < steps.length; from++) {
            for (int to = from + least; to <= steps.length; to++) {
                rows.add(row(steps, from, to));
            }
        }
        List<Again> all = new ArrayList<>();
        for (List<Integer> row : rows) {
            List<Integer> places = new ArrayList<>();
            Set<Integer> before = new HashSet<>();
            Set<Integer> behind = new HashSet<>();
            for (int from = 0; from + row.size() <= steps.length; from++) {
                int to = from + row.size();
                if (row(steps, from, to).equals(row)) {
                    places.add(from);
                    // an edge is unlike each step and unlike another place's edge
                    before.add(from > 0 ? steps[from - 1] : 1000 + from);
                    behind.add(to < steps.length ? steps[to] : 1000 + from);
                }
            }
            if (places.size() >= 2 && before.size() > 1 && behind.size() > 1) {
                all.add(new Again(places.get(0), row.size(), places.size()));
            }
        }
        all.sort(Comparator.comparingInt(Again::first).thenComparingInt(Again::steps));
        return all;
    }

    private static List<Integer> row(int[] steps, int from, int to) {
        return Arrays.stream(steps, from, to).boxed().toList();
    }

    int repeats(int id, int least) {
        Tune tune = get(id);
        argument(within(least, 1, 19));
        return allRepeats(steps(tune.now()), least).size();
    }

    int repeat(int id, int least, int i, int what) {
        Tune tune = get(id);
        argument(within(least, 1, 19) && within(what, 0, 2));
        List<Again> all = allRepeats(steps(tune.now()), least);
        if (!within(i, 0, all.size() - 1)) {
            return -1;
        }
        return new int[] {all.get(i).first(), all.get(i).steps(), all.get(i).places()}[what];
    }

    int canon(int id, int other, int n) {
        List<Note> notes = get(id).now();
        List<Note> second = get(other).now();
        argument(within(n, 2, 20));
        for (int place = id == other ? 1 : 0; place + n <= notes.size() && n <= second.size(); place++) {
            List<Note> one = notes.subList(place, place + n);
            List<Note> two = second.subList(0, n);
            if (Arrays.equals(steps(one), steps(two))
                    && one.stream().map(Note::length).toList().equals(two.stream().map(Note::length).toList())) {
                return place;
            }
        }
        return -1;
    }

    int opening(int id, int i) {
        int[] mine = steps(get(id).now());
        List<int[]> others = new ArrayList<>();
        for (int other = 0; other < 8; other++) {
            if (other != id && tunes[other] != null && tunes[other].shown) {
                int[] steps = steps(tunes[other].now());
                int mismatch = Arrays.mismatch(mine, steps);
                others.add(new int[] {mismatch < 0 ? mine.length : mismatch, other});
            }
        }
        others.sort(Comparator.comparingInt((int[] pair) -> -pair[0]).thenComparingInt(pair -> pair[1]));
        return within(i, 0, others.size() - 1) ? others.get(i)[1] : -1;
    }
}
