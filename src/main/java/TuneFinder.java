/** A catalogue of tunes that finds what is hummed; ../shared/DOC.md says what each call promises. */
public final class TuneFinder {
    public static final int NONE = -1;

    private static final int TUNES = 8;
    private static final int MOST_NOTES = 20;
    private static final int MOST_STEPS = MOST_NOTES - 1;
    private static final int MOST_READINGS = 9;
    private static final int MOST_ASKED = 8;
    private static final int MOST_KEPT = 30;
    private static final int MOST_PITCH = 127;
    private static final int MOST_LENGTH = 64;
    private static final int MOST_K = 4;
    private static final int LONGEST_NEAR = MOST_ASKED + MOST_K;

    private static final int EXACT = 0;
    private static final int MELODY = 1;
    private static final int CONTOUR = 2;
    private static final int OUTLINE = 4;
    private static final int NEAR = 5;

    private final Tune[] tunes;
    private final Notes query;
    private final Found found;
    private final Near near;
    private final Repeats rows;
    private final int[] sharedSteps;

    public TuneFinder() {
        tunes = new Tune[TUNES];
        for (int id = 0; id < TUNES; id++) {
            tunes[id] = new Tune();
        }
        query = new Notes(MOST_ASKED);
        found = new Found();
        near = new Near();
        rows = new Repeats();
        sharedSteps = new int[TUNES];
    }

    public void tune(int id) throws IndexOutOfBoundsException, IllegalStateException {
        if (id < 0 || id >= TUNES) {
            throw new IndexOutOfBoundsException();
        }
        if (tunes[id].there) {
            throw new IllegalStateException();
        }
        tunes[id].begin();
    }

    public void drop(int id) throws IndexOutOfBoundsException {
        existing(id).end();
    }

    public int note(int id, int pitch, int length)
            throws IndexOutOfBoundsException, IllegalArgumentException, IllegalStateException {
        Tune tune = existing(id);
        refuseUnlessNote(pitch, length);
        if (tune.shown || tune.lastReading > 0 || tune.now.count >= MOST_NOTES) {
            throw new IllegalStateException();
        }
        return tune.now.append(pitch, length);
    }

    public void show(int id, boolean on) throws IndexOutOfBoundsException, IllegalStateException {
        Tune tune = existing(id);
        if (tune.shown == on || tune.now.count < 2) {
            throw new IllegalStateException();
        }
        tune.shown = on;
    }

    public int correct(int id, int place, int pitch, int length)
            throws IndexOutOfBoundsException, IllegalArgumentException, IllegalStateException {
        Tune tune = existing(id);
        refuseUnlessPlace(tune, place);
        refuseUnlessNote(pitch, length);
        if (tune.lastReading + 1 >= MOST_READINGS) {
            throw new IllegalStateException();
        }
        return tune.replace(place, pitch, length);
    }

    public void restore(int id, int reading) throws IndexOutOfBoundsException {
        Tune tune = existing(id);
        refuseUnlessReading(tune, reading);
        tune.goBack(reading);
    }

    public int at(int id, int place, int what, int reading)
            throws IndexOutOfBoundsException, IllegalArgumentException {
        Tune tune = existing(id);
        refuseUnlessPlace(tune, place);
        int wanted = reading == NONE ? tune.lastReading : reading;
        refuseUnlessReading(tune, wanted);
        switch (what) {
            case 0:
                return tune.pitchIn(wanted, place);
            case 1:
                return tune.lengthIn(wanted, place);
            case 2:
                return tune.stepIn(wanted, place);
            default:
                throw new IllegalArgumentException();
        }
    }

    public int about(int id, int what) throws IndexOutOfBoundsException, IllegalArgumentException {
        Tune tune = existing(id);
        switch (what) {
            case 0:
                return tune.now.count;
            case 1:
                return tune.shown ? 1 : 0;
            case 2:
                return tune.lastReading + 1;
            default:
                throw new IllegalArgumentException();
        }
    }

    public int contour(int id, int i) throws IndexOutOfBoundsException {
        Notes notes = existing(id).now;
        if (i < 0 || i >= notes.steps()) {
            return NONE;
        }
        int step = notes.stepBehind(i);
        if (step == 0) {
            return 's';
        }
        return step > 0 ? 'u' : 'd';
    }

    public int ask(int pitch, int length) throws IllegalArgumentException, IllegalStateException {
        refuseUnlessNote(pitch, length);
        if (query.count >= MOST_ASKED) {
            throw new IllegalStateException();
        }
        return query.append(pitch, length);
    }

    public void forget() {
        query.clear();
    }

    public int search(int kind, int k) throws IllegalArgumentException, IllegalStateException {
        if (kind < EXACT || kind > NEAR || k < 0 || k > MOST_K) {
            throw new IllegalArgumentException();
        }
        if (query.count < 2) {
            throw new IllegalStateException();
        }
        found.begin(query.count);
        for (int id = 0; id < TUNES; id++) {
            if (tunes[id].shown) {
                searchTune(id, kind, k);
            }
        }
        return found.total;
    }

    public int match(int i, int what) throws IndexOutOfBoundsException, IllegalArgumentException {
        if (i < 0 || i >= found.kept) {
            throw new IndexOutOfBoundsException();
        }
        Passage passage = found.passages[i];
        switch (what) {
            case 0:
                return passage.id;
            case 1:
                return passage.place;
            case 2:
                return passage.span;
            case 3:
                return passage.higher;
            case 4:
                return found.upperOfScore(passage);
            case 5:
                return found.lowerOfScore(passage);
            default:
                throw new IllegalArgumentException();
        }
    }

    public int repeats(int id, int least) throws IndexOutOfBoundsException, IllegalArgumentException {
        Tune tune = existing(id);
        refuseUnlessLeast(least);
        return rows.walk(tune.now, least, NONE);
    }

    public int repeat(int id, int least, int i, int what)
            throws IndexOutOfBoundsException, IllegalArgumentException {
        Tune tune = existing(id);
        refuseUnlessLeast(least);
        if (what < 0 || what > 2) {
            throw new IllegalArgumentException();
        }
        if (i < 0 || rows.walk(tune.now, least, i) <= i) {
            return NONE;
        }
        switch (what) {
            case 0:
                return rows.first;
            case 1:
                return rows.size;
            default:
                return rows.places;
        }
    }

    public int canon(int id, int other, int n) throws IndexOutOfBoundsException, IllegalArgumentException {
        Notes notes = existing(id).now;
        Notes imitating = existing(other).now;
        if (n < 2 || n > MOST_NOTES) {
            throw new IllegalArgumentException();
        }
        if (imitating.count < n) {
            return NONE;
        }
        for (int place = id == other ? 1 : 0; place + n <= notes.count; place++) {
            if (sameSteps(imitating, n, notes, place) && sameLengths(imitating, n, notes, place)) {
                return place;
            }
        }
        return NONE;
    }

    public int opening(int id, int i) throws IndexOutOfBoundsException {
        Tune tune = existing(id);
        for (int other = 0; other < TUNES; other++) {
            boolean counts = other != id && tunes[other].shown;
            sharedSteps[other] = counts ? stepsSharedAtFirst(tune.now, tunes[other].now) : NONE;
        }
        int passed = 0;
        for (int shared = MOST_STEPS; shared >= 0; shared--) {
            for (int other = 0; other < TUNES; other++) {
                if (sharedSteps[other] == shared) {
                    if (passed == i) {
                        return other;
                    }
                    passed++;
                }
            }
        }
        return NONE;
    }

    private Tune existing(int id) {
        if (id < 0 || id >= TUNES || !tunes[id].there) {
            throw new IndexOutOfBoundsException();
        }
        return tunes[id];
    }

    private static void refuseUnlessPlace(Tune tune, int place) {
        if (place < 0 || place >= tune.now.count) {
            throw new IndexOutOfBoundsException();
        }
    }

    private static void refuseUnlessReading(Tune tune, int reading) {
        if (reading < 0 || reading > tune.lastReading) {
            throw new IndexOutOfBoundsException();
        }
    }

    private static void refuseUnlessNote(int pitch, int length) {
        if (pitch < 0 || pitch > MOST_PITCH || length < 1 || length > MOST_LENGTH) {
            throw new IllegalArgumentException();
        }
    }

    private static void refuseUnlessLeast(int least) {
        if (least < 1 || least > MOST_STEPS) {
            throw new IllegalArgumentException();
        }
    }

    private void searchTune(int id, int kind, int k) {
        switch (kind) {
            case OUTLINE:
                searchOutline(id, k);
                break;
            case NEAR:
                searchNear(id, k);
                break;
            default:
                searchNoteByNote(id, kind);
                break;
        }
    }

    private void searchNoteByNote(int id, int kind) {
        Notes notes = tunes[id].now;
        for (int place = 0; place + query.count <= notes.count; place++) {
            if (fits(kind, notes, place)) {
                offer(id, place, query.count, query.count);
            }
        }
    }

    private boolean fits(int kind, Notes notes, int place) {
        switch (kind) {
            case EXACT:
                return sameSteps(query, query.count, notes, place) && sameRatio(query, notes, place);
            case MELODY:
                return sameSteps(query, query.count, notes, place);
            case CONTOUR:
                return sameContour(query, notes, place);
            default:
                return sameRatio(query, notes, place);
        }
    }

    private void searchOutline(int id, int k) {
        Notes notes = tunes[id].now;
        for (int place = 0; place + query.count <= notes.count; place++) {
            int ends = outlineEnds(notes, place, k);
            for (int end = place + 1; end < notes.count; end++) {
                if ((ends >> end & 1) == 1) {
                    offer(id, place, end - place + 1, query.count);
                }
            }
        }
    }

    /** The places, a bit each, where an outline of the query that begins at a place can have its last note. */
    private int outlineEnds(Notes notes, int place, int k) {
        int higher = notes.pitches[place] - query.pitches[0];
        int ends = 1 << place;
        for (int asked = 1; asked < query.count; asked++) {
            int reached = 0;
            for (int distance = 1; distance <= k + 1; distance++) {
                reached |= ends << distance;
            }
            ends = reached & notes.placesOfPitch(query.pitches[asked] + higher);
        }
        return ends;
    }

    private void searchNear(int id, int k) {
        Notes notes = tunes[id].now;
        near.begin(query, notes, k);
        for (int place = 0; place + 2 <= notes.count; place++) {
            near.goOn(query, notes, place);
            for (int span = 2; span <= near.longest && place + span <= notes.count; span++) {
                if (near.holds(span)) {
                    offer(id, place, span, near.staying(span) + 1);
                }
            }
        }
    }

    private void offer(int id, int place, int span, int c) {
        int higher = tunes[id].now.pitches[place] - query.pitches[0];
        found.add(id, place, span, higher, c);
    }

    private static boolean sameSteps(Notes row, int n, Notes notes, int place) {
        for (int i = 0; i + 1 < n; i++) {
            if (row.stepBehind(i) != notes.stepBehind(place + i)) {
                return false;
            }
        }
        return true;
    }

    private static boolean sameContour(Notes row, Notes notes, int place) {
        for (int i = 0; i < row.steps(); i++) {
            if (Integer.signum(row.stepBehind(i)) != Integer.signum(notes.stepBehind(place + i))) {
                return false;
            }
        }
        return true;
    }

    private static boolean sameRatio(Notes row, Notes notes, int place) {
        for (int i = 1; i < row.count; i++) {
            if (row.lengths[i] * notes.lengths[place] != notes.lengths[place + i] * row.lengths[0]) {
                return false;
            }
        }
        return true;
    }

    private static boolean sameLengths(Notes row, int n, Notes notes, int place) {
        for (int i = 0; i < n; i++) {
            if (row.lengths[i] != notes.lengths[place + i]) {
                return false;
            }
        }
        return true;
    }

    private static int stepsSharedAtFirst(Notes one, Notes two) {
        int most = Math.min(one.steps(), two.steps());
        for (int i = 0; i < most; i++) {
            if (one.stepBehind(i) != two.stepBehind(i)) {
                return i;
            }
        }
        return most;
    }

    /** A row of notes. */
    private static final class Notes {
        final int[] pitches;
        final int[] lengths;
        int count;

        Notes(int most) {
            pitches = new int[most];
            lengths = new int[most];
        }

        void clear() {
            count = 0;
        }

        int append(int pitch, int length) {
            put(count, pitch, length);
            count++;
            return count;
        }

        void put(int place, int pitch, int length) {
            pitches[place] = pitch;
            lengths[place] = length;
        }

        int steps() {
            return Math.max(count - 1, 0);
        }

        int stepBehind(int place) {
            return pitches[place + 1] - pitches[place];
        }

        int placesOfPitch(int pitch) {
            int places = 0;
            for (int place = 0; place < count; place++) {
                if (pitches[place] == pitch) {
                    places |= 1 << place;
                }
            }
            return places;
        }
    }

    /**
     * A tune as it is now, and its readings: correction r made reading r + 1, and what it
     * replaced is held, so that no reading needs a row of notes of its own.
     */
    private static final class Tune {
        final Notes now;
        private final int[] placesReplaced;
        private final Notes replaced;
        boolean there;
        boolean shown;
        int lastReading;

        Tune() {
            now = new Notes(MOST_NOTES);
            placesReplaced = new int[MOST_READINGS - 1];
            replaced = new Notes(MOST_READINGS - 1);
        }

        void begin() {
            now.clear();
            there = true;
            shown = false;
            lastReading = 0;
        }

        void end() {
            there = false;
            shown = false;
        }

        int replace(int place, int pitch, int length) {
            placesReplaced[lastReading] = place;
            replaced.put(lastReading, now.pitches[place], now.lengths[place]);
            now.put(place, pitch, length);
            lastReading++;
            return lastReading;
        }

        void goBack(int reading) {
            for (int r = lastReading - 1; r >= reading; r--) {
                now.put(placesReplaced[r], replaced.pitches[r], replaced.lengths[r]);
            }
            lastReading = reading;
        }

        int pitchIn(int reading, int place) {
            int r = replacedAfter(reading, place);
            return r == NONE ? now.pitches[place] : replaced.pitches[r];
        }

        int lengthIn(int reading, int place) {
            int r = replacedAfter(reading, place);
            return r == NONE ? now.lengths[place] : replaced.lengths[r];
        }

        int stepIn(int reading, int place) {
            if (place + 1 >= now.count) {
                return 0;
            }
            return pitchIn(reading, place + 1) - pitchIn(reading, place);
        }

        /** The first correction after a reading that replaced the note of a place, or NONE. */
        private int replacedAfter(int reading, int place) {
            for (int r = reading; r < lastReading; r++) {
                if (placesReplaced[r] == place) {
                    return r;
                }
            }
            return NONE;
        }
    }

    /** A passage that was found; c is the number that its score is made with. */
    private static final class Passage {
        int id;
        int place;
        int span;
        int higher;
        int c;
    }

    /** What the last search found: how many passages, and the first ones in their order. */
    private static final class Found {
        final Passage[] passages;
        int asked;
        int total;
        int kept;

        Found() {
            passages = new Passage[MOST_KEPT];
            for (int i = 0; i < MOST_KEPT; i++) {
                passages[i] = new Passage();
            }
        }

        void begin(int notesAsked) {
            asked = notesAsked;
            total = 0;
            kept = 0;
        }

        /** Passages come by tune, place and span, so that one goes behind those of its score. */
        void add(int id, int place, int span, int higher, int c) {
            total++;
            int rank = rankOf(span, c);
            if (rank >= MOST_KEPT) {
                return;
            }
            Passage passage = makeRoom(rank);
            passage.id = id;
            passage.place = place;
            passage.span = span;
            passage.higher = higher;
            passage.c = c;
        }

        private int rankOf(int span, int c) {
            for (int i = kept; i > 0; i--) {
                Passage before = passages[i - 1];
                // c c / span against that of the one before, without a division
                if (c * c * before.span <= before.c * before.c * span) {
                    return i;
                }
            }
            return 0;
        }

        /** The object of the last passage, which falls out when all are in use, is used again. */
        private Passage makeRoom(int rank) {
            int last = Math.min(kept, MOST_KEPT - 1);
            Passage used = passages[last];
            for (int i = last; i > rank; i--) {
                passages[i] = passages[i - 1];
            }
            passages[rank] = used;
            kept = last + 1;
            return used;
        }

        int upperOfScore(Passage passage) {
            return leastTerm(passage.c * passage.c, asked * passage.span);
        }

        int lowerOfScore(Passage passage) {
            return leastTerm(asked * passage.span, passage.c * passage.c);
        }

        /** What a number is when it and the other one are divided by all that they share. */
        private static int leastTerm(int number, int other) {
            for (int divisor = number; divisor > 1; divisor--) {
                if (number % divisor == 0 && other % divisor == 0) {
                    return number / divisor;
                }
            }
            return number;
        }
    }

    /**
     * The distance of passages from the query, for one place of a tune after another.
     * A way of changing the one row of steps into the other weighs CHANGE for each change and
     * -1 for each step that stays: at most 7 stay, so the least weight belongs to the least
     * number of changes and, among these ways, to the greatest number of steps that stay.
     */
    private static final class Near {
        private static final int CHANGE = 16;

        private final int[] weights;
        private int[] here;
        private int[] behind;
        private int most;
        int longest;

        Near() {
            weights = new int[MOST_ASKED];
            here = new int[LONGEST_NEAR + 1];
            behind = new int[LONGEST_NEAR + 1];
        }

        void begin(Notes query, Notes notes, int k) {
            most = k * CHANGE;
            // a passage of more notes has more than k steps too many
            longest = query.count + k;
            measure(query, notes, 0);
        }

        /** Goes to a place, the one behind that of the last call, or 0 at first. */
        void goOn(Notes query, Notes notes, int place) {
            int[] measured = behind;
            behind = here;
            here = measured;
            measure(query, notes, place + 1);
        }

        boolean holds(int span) {
            if (here[span] > most) {
                return false;
            }
            return span == 2 || (here[span - 1] > most && behind[span - 1] > most);
        }

        int staying(int span) {
            int changes = (here[span] + CHANGE - 1) / CHANGE;
            return changes * CHANGE - here[span];
        }

        /** Puts the least weight of each passage from a place on, by its span, into the row behind. */
        private void measure(Notes query, Notes notes, int place) {
            for (int asked = 0; asked <= query.steps(); asked++) {
                weights[asked] = asked * CHANGE;
            }
            for (int span = 2; span <= longest && place + span <= notes.count; span++) {
                takeIn(query, notes.stepBehind(place + span - 2));
                behind[span] = weights[query.steps()];
            }
        }

        /** Makes the weights against the first steps of the query those of a row with one step more. */
        private void takeIn(Notes query, int step) {
            int shorter = weights[0];
            weights[0] += CHANGE;
            for (int asked = 1; asked <= query.steps(); asked++) {
                boolean stays = query.stepBehind(asked - 1) == step;
                int paired = shorter + (stays ? -1 : CHANGE);
                shorter = weights[asked];
                int unpaired = Math.min(weights[asked], weights[asked - 1]) + CHANGE;
                weights[asked] = Math.min(paired, unpaired);
            }
        }
    }

    /** Finds the rows of steps that come again within a tune. */
    private static final class Repeats {
        private final int[] common;
        int first;
        int size;
        int places;

        Repeats() {
            common = new int[MOST_STEPS];
        }

        /**
         * Goes through the repeats in their order and answers how many it met. It ends at the
         * one whose number is wanted, which is then held in first, size and places.
         */
        int walk(Notes notes, int least, int wanted) {
            int met = 0;
            for (int from = 0; from < notes.steps(); from++) {
                compare(notes, from);
                for (int steps = least; from + steps <= notes.steps(); steps++) {
                    int times = placesOfRepeat(notes, from, steps);
                    if (times > 0) {
                        met++;
                        if (met - 1 == wanted) {
                            first = from;
                            size = steps;
                            places = times;
                            return met;
                        }
                    }
                }
            }
            return met;
        }

        /** Holds for each place how many steps from it on are those from a given place on. */
        private void compare(Notes notes, int from) {
            for (int place = 0; place < notes.steps(); place++) {
                int longest = notes.steps() - Math.max(from, place);
                int same = 0;
                while (same < longest && notes.stepBehind(from + same) == notes.stepBehind(place + same)) {
                    same++;
                }
                common[place] = same;
            }
        }

        /** At how many places a repeat with this first place is, or 0 when there is no such repeat. */
        private int placesOfRepeat(Notes notes, int from, int steps) {
            int times = 0;
            boolean sameBefore = from > 0;
            boolean sameBehind = true;
            for (int place = 0; place < notes.steps(); place++) {
                if (common[place] >= steps) {
                    if (place < from) {
                        return 0;
                    }
                    times++;
                    sameBefore = sameBefore && notes.stepBehind(place - 1) == notes.stepBehind(from - 1);
                    sameBehind = sameBehind && common[place] > steps;
                }
            }
            return times >= 2 && !sameBefore && !sameBehind ? times : 0;
        }
    }
}
