/**
 * Each sentence of the document that names a limit: the last thing within it and the first one
 * beyond it, and what is empty or full. What is refused, with all arguments, is RefusalTest's.
 */
public final class LimitsTest {
    private static final Class<IndexOutOfBoundsException> INDEX = IndexOutOfBoundsException.class;
    private static final Class<IllegalArgumentException> ARGUMENT = IllegalArgumentException.class;
    private static final Class<IllegalStateException> STATE = IllegalStateException.class;
    private static final int NONE = TuneFinder.NONE;
    private static final int LEAST = Integer.MIN_VALUE;
    private static final int GREATEST = Integer.MAX_VALUE;

    private static final Check check = new Check();
    private static final Document document = new Document();

    public static void main(String[] args) {
        lastOfAllCalls();
        nothingAtFirst();
        eightTunes();
        twentyNotes();
        pitchesAndLengths();
        nineReadings();
        restoredReadings();
        eightNotesAsked();
        forgotten();
        noteAgainWhenItMay();
        showAndHide();
        droppedTune();
        shorterTuneAnew();
        shortestQuery();
        tuneShorterThanTheQuery();
        contoursAtTheEdges();
        ratiosAtTheEdges();
        outlineWithFourBetween();
        outlineAtTheEdges();
        outlineBeyondThePitches();
        nearByStepsPutIn();
        nearByStepsTakenOut();
        nearByOtherSteps();
        nearOfTwoNotes();
        shortestPassage();
        ties();
        thirtyKept();
        mostFound();
        matchAsItWas();
        stepBehindTheLast();
        contourEnds();
        leastOfRepeats();
        twoPlacesAtLeast();
        endsOfTheSteps();
        noSuchRepeat();
        canonOfTwoAndTwenty();
        canonOfItself();
        openingEnds();
        openingOfShortTunes();
        check.end();
    }

    /** Names the sentence that the next calls stand for. */
    private static void sentence(String words) {
        check.promise(words);
        check.same("true", "" + document.has(words), "is in the document");
    }

    private static void found(TuneFinder x, int kind, int k, int count, String passages) {
        String call = "search(" + kind + ", " + k + ")";
        check.due(count, call, () -> x.search(kind, k));
        check.same(passages, Tunes.kept(x), call + " keeps");
    }

    /** A row of so many numbers, one up at a time from the first one. */
    private static int[] stair(int first, int count) {
        int[] row = new int[count];
        for (int i = 0; i < count; i++) {
            row[i] = first + i;
        }
        return row;
    }

    private static void lastOfAllCalls() {
        sentence("An object is used for at most 512 calls after it has been made");
        TuneFinder x = new TuneFinder();
        Tunes.shown(x, 0, 60, 62, 64);
        Tunes.hum(x, 1, 3);
        // 8 calls stand before these
        for (int call = 8; call < 510; call += 2) {
            x.correct(0, 1, call % 128, 1 + call % 64);
            x.restore(0, 0);
        }
        check.due(2, "call 511, search(1, 0)", () -> x.search(1, 0));
        check.due(1, "call 512, match(1, 1)", () -> x.match(1, 1));
    }

    private static void nothingAtFirst() {
        sentence("No tunes, no query, nothing found.");
        TuneFinder x = new TuneFinder();
        for (int id = 0; id < 8; id++) {
            int tune = id;
            check.refused(INDEX, "drop(" + id + ")", () -> x.drop(tune));
            check.refused(INDEX, "opening(" + id + ", 0)", () -> x.opening(tune, 0));
        }
        check.refused(INDEX, "match(0, 0)", () -> x.match(0, 0));
        for (int kind = 0; kind < 6; kind++) {
            int which = kind;
            check.refused(STATE, "search(" + kind + ", 0)", () -> x.search(which, 0));
        }
        check.due(1, "ask(0, 1)", () -> x.ask(0, 1));
        check.due(2, "ask(0, 1)", () -> x.ask(0, 1));
        for (int kind = 0; kind < 6; kind++) {
            found(x, kind, 4, 0, "");
        }
    }

    private static void eightTunes() {
        sentence("TUNES are 0 .. 7, each there or not");
        TuneFinder x = new TuneFinder();
        for (int id = 7; id >= 0; id--) {
            Tunes.shown(x, id, id, id + 10 + id);
        }
        for (int id = 0; id < 8; id++) {
            int tune = id;
            check.due(10 + id, "at(" + id + ", 0, 2, 0)", () -> x.at(tune, 0, 2, 0));
        }
        check.refused(INDEX, "tune(8), when all are there", () -> x.tune(8));
        check.refused(STATE, "tune(7), when all are there", () -> x.tune(7));
        Tunes.hum(x, 50, 51);
        found(x, 2, 0, 8, "0,0,2,-50,1/1 1,0,2,-49,1/1 2,0,2,-48,1/1 3,0,2,-47,1/1"
                + " 4,0,2,-46,1/1 5,0,2,-45,1/1 6,0,2,-44,1/1 7,0,2,-43,1/1");
    }

    private static void twentyNotes() {
        sentence("one that is there has NOTES, at most 20, in PLACES 0, 1, ..");
        TuneFinder x = new TuneFinder();
        x.tune(3);
        for (int place = 0; place < 20; place++) {
            int at = place;
            check.refused(INDEX, "at(3, " + place + ", 0, 0)", () -> x.at(3, at, 0, 0));
            check.due(place + 1, "note " + (place + 1), () -> x.note(3, 100 - at, 1 + at));
            check.due(100 - place, "at(3, " + place + ", 0, 0)", () -> x.at(3, at, 0, 0));
        }
        check.refused(STATE, "note 21", () -> x.note(3, 60, 1));
        check.due(20, "about(3, 0)", () -> x.about(3, 0));
        check.refused(INDEX, "at(3, 20, 0, 0)", () -> x.at(3, 20, 0, 0));
        check.refused(INDEX, "correct(3, 20, 60, 1)", () -> x.correct(3, 20, 60, 1));
        check.due(1, "correct(3, 19, 60, 1)", () -> x.correct(3, 19, 60, 1));
        check.due(-22, "at(3, 18, 2, 1)", () -> x.at(3, 18, 2, 1));
        x.show(3, true);
        Tunes.hum(x, 82, 60);
        found(x, 1, 0, 1, "3,18,2,0,1/1");
    }

    private static void pitchesAndLengths() {
        sentence("each has a PITCH 0 .. 127 and a LENGTH 1 .. 64");
        TuneFinder x = new TuneFinder();
        x.tune(0);
        check.due(1, "note(0, 0, 64)", () -> x.note(0, 0, 64));
        check.due(2, "note(0, 127, 1)", () -> x.note(0, 127, 1));
        check.due(3, "note(0, 0, 64)", () -> x.note(0, 0, 64));
        check.due(127, "the greatest step", () -> x.at(0, 0, 2, NONE));
        check.due(-127, "the least step", () -> x.at(0, 1, 2, NONE));
        check.due('u', "contour(0, 0)", () -> x.contour(0, 0));
        check.due('d', "contour(0, 1)", () -> x.contour(0, 1));
        x.show(0, true);
        check.due(1, "ask(127, 1)", () -> x.ask(127, 1));
        check.due(2, "ask(0, 64)", () -> x.ask(0, 64));
        found(x, 0, 0, 1, "0,1,2,0,1/1");
        check.due(1, "correct(0, 1, 0, 64)", () -> x.correct(0, 1, 0, 64));
        check.due(2, "correct(0, 2, 127, 1)", () -> x.correct(0, 2, 127, 1));
        check.due(127, "at(0, 1, 2, 2)", () -> x.at(0, 1, 2, 2));
        x.forget();
        x.ask(127, 1);
        x.ask(127, 1);
        found(x, 1, 0, 1, "0,0,2,-127,1/1");
        x.correct(0, 0, 127, 1);
        x.correct(0, 1, 127, 1);
        Tunes.hum(x, 0, 0);
        found(x, 4, 0, 2, "0,0,2,127,1/1 0,1,2,127,1/1");
    }

    private static void nineReadings() {
        sentence("There are at most 9 readings of a tune.");
        TuneFinder x = new TuneFinder();
        Tunes.hidden(x, 0, 100);
        for (int reading = 1; reading <= 8; reading++) {
            int number = reading;
            check.refused(INDEX, "at(0, 0, 0, " + reading + ")", () -> x.at(0, 0, 0, number));
            check.due(reading, "correct " + reading, () -> x.correct(0, 0, number, 2 * number));
        }
        check.refused(STATE, "correct 9", () -> x.correct(0, 0, 9, 18));
        check.due(9, "about(0, 2)", () -> x.about(0, 2));
        check.due(100, "at(0, 0, 0, 0)", () -> x.at(0, 0, 0, 0));
        for (int reading = 1; reading <= 8; reading++) {
            int number = reading;
            check.due(reading, "at(0, 0, 0, " + reading + ")", () -> x.at(0, 0, 0, number));
            check.due(2 * reading, "at(0, 0, 1, " + reading + ")", () -> x.at(0, 0, 1, number));
        }
        check.due(8, "at(0, 0, 0, NONE)", () -> x.at(0, 0, 0, NONE));
        check.refused(INDEX, "at(0, 0, 0, 9)", () -> x.at(0, 0, 0, 9));
        check.refused(INDEX, "restore(0, 9)", () -> x.restore(0, 9));
    }

    private static void restoredReadings() {
        sentence("A tune is what it was in a reading; that is the last one then.");
        TuneFinder x = new TuneFinder();
        Tunes.hidden(x, 0, 100, 100);
        for (int reading = 1; reading <= 8; reading++) {
            x.correct(0, reading % 2, reading, reading);
        }
        check.done("restore(0, 8), the last one of nine", () -> x.restore(0, 8));
        check.refused(STATE, "correct, when there are 9", () -> x.correct(0, 0, 50, 50));
        check.done("restore(0, 7)", () -> x.restore(0, 7));
        check.due(6, "at(0, 0, 0, NONE)", () -> x.at(0, 0, 0, NONE));
        check.refused(INDEX, "restore(0, 8), which is no more", () -> x.restore(0, 8));
        check.due(8, "correct, when there are 8", () -> x.correct(0, 1, 50, 50));
        check.due(7, "at(0, 1, 0, 7)", () -> x.at(0, 1, 0, 7));
        check.due(50, "at(0, 1, 0, 8)", () -> x.at(0, 1, 0, 8));
        check.done("restore(0, 0)", () -> x.restore(0, 0));
        check.due(1, "about(0, 2)", () -> x.about(0, 2));
        check.due(100, "at(0, 0, 0, NONE)", () -> x.at(0, 0, 0, NONE));
        check.due(100, "at(0, 1, 0, NONE)", () -> x.at(0, 1, 0, NONE));
        check.refused(INDEX, "at(0, 0, 0, 1)", () -> x.at(0, 0, 0, 1));
        check.refused(INDEX, "restore(0, NONE)", () -> x.restore(0, NONE));
        check.due(3, "note(0, 1, 1), with one reading again", () -> x.note(0, 1, 1));
        x.tune(1);
        check.done("restore(1, 0) without notes", () -> x.restore(1, 0));
        check.refused(INDEX, "restore(1, 1)", () -> x.restore(1, 1));
    }

    private static void eightNotesAsked() {
        sentence("THE QUERY is a row of at most 8 notes.");
        TuneFinder x = new TuneFinder();
        Tunes.shown(x, 2, stair(50, 20));
        Tunes.hum(x, stair(0, 8));
        check.refused(STATE, "ask 9", () -> x.ask(8, 1));
        StringBuilder all = new StringBuilder();
        for (int place = 0; place <= 12; place++) {
            all.append("2,").append(place).append(",8,").append(50 + place).append(",1/1 ");
        }
        for (int kind = 0; kind < 5; kind++) {
            found(x, kind, 0, 13, all.toString().trim());
        }
    }

    private static void forgotten() {
        sentence("The query has no notes.");
        TuneFinder x = new TuneFinder();
        check.done("forget() of nothing", x::forget);
        Tunes.hum(x, stair(0, 8));
        check.done("forget() of 8", x::forget);
        check.refused(STATE, "search(0, 0)", () -> x.search(0, 0));
        for (int count = 1; count <= 8; count++) {
            check.due(count, "ask " + count, () -> x.ask(1, 1));
        }
        check.refused(STATE, "ask 9", () -> x.ask(1, 1));
    }

    private static void noteAgainWhenItMay() {
        sentence("IllegalStateException when it is shown, has more than one reading, or has 20 notes.");
        TuneFinder x = new TuneFinder();
        Tunes.shown(x, 0, 60, 61);
        check.refused(STATE, "note, shown", () -> x.note(0, 62, 1));
        x.correct(0, 0, 59, 1);
        x.show(0, false);
        check.refused(STATE, "note, two readings", () -> x.note(0, 62, 1));
        x.restore(0, 1);
        check.refused(STATE, "note, still two readings", () -> x.note(0, 62, 1));
        x.restore(0, 0);
        check.due(3, "note, one reading and not shown", () -> x.note(0, 62, 1));
        check.due(60, "at(0, 0, 0, 0)", () -> x.at(0, 0, 0, 0));
    }

    private static void showAndHide() {
        sentence("IllegalStateException when it is so, or has less than 2 notes.");
        TuneFinder x = new TuneFinder();
        x.tune(0);
        for (int notes = 0; notes < 2; notes++) {
            check.refused(STATE, "show with " + notes + " notes", () -> x.show(0, true));
            check.refused(STATE, "hide with " + notes + " notes", () -> x.show(0, false));
            x.note(0, 60, 1);
        }
        check.refused(STATE, "hide what is not shown", () -> x.show(0, false));
        check.done("show with 2 notes", () -> x.show(0, true));
        check.refused(STATE, "show what is shown", () -> x.show(0, true));
        check.done("hide", () -> x.show(0, false));
        check.refused(STATE, "hide again", () -> x.show(0, false));
        check.done("show again", () -> x.show(0, true));
        check.due(1, "about(0, 1)", () -> x.about(0, 1));
    }

    private static void droppedTune() {
        sentence("A tune is there no more.");
        TuneFinder x = new TuneFinder();
        Tunes.shown(x, 0, stair(50, 20));
        for (int reading = 1; reading <= 8; reading++) {
            x.correct(0, 0, 0, 1);
        }
        check.done("drop(0) of a full tune that is shown", () -> x.drop(0));
        check.refused(INDEX, "drop(0) again", () -> x.drop(0));
        check.refused(INDEX, "show(0, false)", () -> x.show(0, false));
        check.refused(INDEX, "restore(0, 0)", () -> x.restore(0, 0));
        Tunes.hum(x, 1, 2);
        found(x, 1, 0, 0, "");
        sentence("A new tune without notes, not shown.");
        check.done("tune(0)", () -> x.tune(0));
        check.refused(INDEX, "at(0, 0, 0, NONE)", () -> x.at(0, 0, 0, NONE));
        check.refused(STATE, "show(0, true)", () -> x.show(0, true));
        check.refused(INDEX, "restore(0, 1)", () -> x.restore(0, 1));
        check.due(1, "note(0, 10, 1)", () -> x.note(0, 10, 1));
        check.due(2, "note(0, 12, 1)", () -> x.note(0, 12, 1));
        check.due(1, "correct(0, 1, 11, 1)", () -> x.correct(0, 1, 11, 1));
        found(x, 1, 0, 0, "");
        x.show(0, true);
        found(x, 1, 0, 1, "0,0,2,9,1/1");
    }

    private static void shorterTuneAnew() {
        sentence("A new tune without notes, not shown.");
        TuneFinder x = new TuneFinder();
        Tunes.shown(x, 0, new int[20]);
        x.drop(0);
        // nothing of the twenty notes that were there may be met behind these two
        Tunes.shown(x, 0, 0, 0);
        Tunes.hum(x, 0, 0, 0);
        for (int kind = 0; kind < 5; kind++) {
            found(x, kind, 0, 0, "");
        }
        found(x, 5, 0, 0, "");
        found(x, 5, 1, 1, "0,0,2,0,2/3");
        check.due(0, "repeats(0, 1)", () -> x.repeats(0, 1));
        check.due(NONE, "canon(0, 0, 2)", () -> x.canon(0, 0, 2));
        check.due(NONE, "contour(0, 1)", () -> x.contour(0, 1));
        check.refused(INDEX, "at(0, 2, 0, NONE)", () -> x.at(0, 2, 0, NONE));
        Tunes.hidden(x, 1, new int[20]);
        Tunes.shown(x, 2, 0, 0, 0);
        check.due(2, "opening(1, 0)", () -> x.opening(1, 0));
        check.due(0, "opening(1, 1)", () -> x.opening(1, 1));
    }

    private static void shortestQuery() {
        sentence("IllegalStateException when the query has less than 2 notes.");
        TuneFinder x = new TuneFinder();
        Tunes.shown(x, 0, 60, 62);
        check.refused(STATE, "search(1, 0) for nothing", () -> x.search(1, 0));
        x.ask(1, 1);
        check.refused(STATE, "search(1, 0) for one note", () -> x.search(1, 0));
        x.ask(3, 1);
        for (int kind = 0; kind < 6; kind++) {
            found(x, kind, 0, 1, "0,0,2,59,1/1");
        }
    }

    private static void tuneShorterThanTheQuery() {
        sentence("1 MELODY: m notes, the same steps.");
        TuneFinder x = new TuneFinder();
        Tunes.shown(x, 0, 60, 61, 62);
        Tunes.shown(x, 1, 60, 61, 62, 63);
        Tunes.hum(x, 1, 2, 3, 4);
        for (int kind = 0; kind < 4; kind++) {
            found(x, kind, 0, 1, "1,0,4,59,1/1");
            found(x, kind, 4, 1, "1,0,4,59,1/1");
        }
        found(x, 4, 4, 1, "1,0,4,59,1/1");
    }

    private static void contoursAtTheEdges() {
        sentence("2 CONTOUR: m notes, each step goes up, down, or neither, as the query's does.");
        TuneFinder x = new TuneFinder();
        Tunes.shown(x, 0, 60, 61, 60, 60);
        Tunes.shown(x, 1, 0, 127, 0, 0);
        Tunes.shown(x, 2, 0, 127, 0, 1);
        Tunes.shown(x, 3, 127, 0, 0, 0);
        Tunes.hum(x, 0, 127, 0, 0);
        found(x, 2, 0, 2, "0,0,4,60,1/1 1,0,4,0,1/1");
        Tunes.hum(x, 1, 2, 1, 2);
        found(x, 2, 0, 1, "2,0,4,-1,1/1");
        Tunes.hum(x, 64, 64);
        found(x, 2, 0, 4, "0,2,2,-4,1/1 1,2,2,-64,1/1 3,1,2,-64,1/1 3,2,2,-64,1/1");
    }

    private static void ratiosAtTheEdges() {
        sentence("3 RHYTHM: m notes, and the lengths have the same ratio to those of the query for all of them.");
        TuneFinder x = new TuneFinder();
        Tunes.rhythm(x, 0, 64, 63, 64);
        Tunes.rhythm(x, 1, 63, 62, 63);
        Tunes.rhythm(x, 2, 1, 64, 1);
        Tunes.rhythm(x, 3, 1, 1, 1);
        Tunes.clap(x, 64, 63, 64);
        found(x, 3, 0, 1, "0,0,3,0,1/1");
        Tunes.clap(x, 63, 62, 63);
        found(x, 0, 0, 1, "1,0,3,0,1/1");
        Tunes.clap(x, 64, 64, 64);
        found(x, 3, 0, 1, "3,0,3,0,1/1");
        Tunes.clap(x, 64, 1);
        found(x, 3, 0, 1, "2,1,2,0,1/1");
        // the first two have the ratio, the third one not
        Tunes.clap(x, 1, 64, 2);
        found(x, 3, 0, 0, "");
    }

    private static void outlineWithFourBetween() {
        sentence("with k other notes at most between any two that follow one another");
        TuneFinder x = new TuneFinder();
        for (int between = 0; between <= 5; between++) {
            int[] pitches = stair(100, between + 2);
            pitches[0] = 10 + between;
            pitches[between + 1] = 70 + between;
            Tunes.shown(x, between, pitches);
        }
        Tunes.hum(x, 0, 60);
        StringBuilder all = new StringBuilder();
        String[] scores = {"1/1", "2/3", "1/2", "2/5", "1/3"};
        for (int k = 0; k <= 4; k++) {
            all.append(k).append(",0,").append(k + 2).append(',').append(10 + k).append(',').append(scores[k]);
            found(x, 4, k, k + 1, all.toString());
            all.append(' ');
        }
        check.refused(ARGUMENT, "search(4, 5)", () -> x.search(4, 5));
        check.same(all.toString().trim(), Tunes.kept(x), "kept after search(4, 5)");
    }

    private static void outlineAtTheEdges() {
        sentence("the query's notes are among its notes, in order, the first one first and the last one last");
        TuneFinder x = new TuneFinder();
        int[] pitches = stair(50, 20);
        // four notes with four others between each two, the last one in the last place
        pitches[4] = 0;
        pitches[9] = 127;
        pitches[14] = 0;
        pitches[19] = 127;
        Tunes.shown(x, 7, pitches);
        Tunes.hum(x, 0, 127, 0, 127);
        found(x, 4, 3, 0, "");
        found(x, 4, 4, 1, "7,4,16,0,1/4");
        x.correct(7, 19, 126, 1);
        found(x, 4, 4, 0, "");
        Tunes.hum(x, 0, 127, 0);
        found(x, 4, 4, 1, "7,4,11,0,3/11");
        TuneFinder y = new TuneFinder();
        Tunes.shown(y, 0, 60, 62, 65, 90);
        // no note of the tune is two of the query's, and none comes again behind a later one
        Tunes.hum(y, 0, 0, 2);
        found(y, 4, 4, 0, "");
        Tunes.hum(y, 0, 2, 2);
        found(y, 4, 4, 0, "");
        Tunes.hum(y, 0, 2, 0, 5);
        found(y, 4, 4, 0, "");
        Tunes.hum(y, 0, 2, 5);
        found(y, 4, 0, 1, "0,0,3,60,1/1");
    }

    private static void outlineBeyondThePitches() {
        sentence("all higher or lower by as much");
        TuneFinder x = new TuneFinder();
        // from 1 on the second note would have to be 128, from 126 on -1
        Tunes.shown(x, 0, 1, 0, 127);
        Tunes.shown(x, 1, 126, 127, 0);
        Tunes.hum(x, 0, 127);
        found(x, 4, 4, 1, "0,1,2,0,1/1");
        Tunes.hum(x, 127, 0);
        found(x, 4, 4, 1, "1,1,2,0,1/1");
    }

    /** The score of the passage that is a whole tune, when a NEAR search keeps it. */
    private static String scoreOfWhole(TuneFinder x, int k) {
        int found = x.search(5, k);
        for (int i = 0; i < found && i < 30; i++) {
            if (x.match(i, 2) == x.about(0, 0)) {
                return x.match(i, 4) + "/" + x.match(i, 5);
            }
        }
        return "none";
    }

    /**
     * The whole of a tune that begins and ends as the query does is found when k is its distance:
     * with less it is not near, with more it is so without its first note too.
     */
    private static void nearAt(int distance, String score, int... steps) {
        TuneFinder x = new TuneFinder();
        Tunes.shown(x, 0, climb(60, steps));
        Tunes.hum(x, climb(20, 1, -2, 3, -4, 5, -6, 7));
        for (int k = 0; k <= 4; k++) {
            check.same(k == distance ? score : "none", scoreOfWhole(x, k), "k " + k + ", distance " + distance);
        }
    }

    private static void nearByStepsPutIn() {
        sentence("5 NEAR, with k: the DISTANCE of its row of steps from the query's is k at most");
        nearAt(0, "1/1", 1, -2, 3, -4, 5, -6, 7);
        nearAt(1, "8/9", 1, -2, 3, 30, -4, 5, -6, 7);
        nearAt(2, "4/5", 1, -2, 3, 30, -31, -4, 5, -6, 7);
        nearAt(3, "8/11", 1, -2, 3, 30, -31, 40, -4, 5, -6, 7);
        nearAt(4, "2/3", 1, -2, 3, 30, -31, 40, -41, -4, 5, -6, 7);
        nearAt(5, "none", 1, -2, 3, 30, -31, 40, -41, 33, -4, 5, -6, 7);
    }

    private static void nearByStepsTakenOut() {
        sentence("The distance of two rows is the least number of changes that make the one the other");
        nearAt(1, "7/8", 1, -2, 3, 5, -6, 7);
        nearAt(2, "3/4", 1, -2, 3, -6, 7);
        nearAt(3, "5/8", 1, -2, -6, 7);
        nearAt(4, "1/2", 1, -2, 7);
        nearAt(5, "none", 1, 7);
    }

    private static void nearByOtherSteps() {
        sentence("a change being a step that is put in, taken out, or another one.");
        nearAt(1, "49/64", 1, 11, 3, -4, 5, -6, 7);
        nearAt(2, "9/16", 1, 11, 12, -4, 5, -6, 7);
        nearAt(3, "25/64", 1, 11, 12, -13, 5, -6, 7);
        nearAt(4, "1/4", 1, 11, 12, -13, -14, -6, 7);
        nearAt(5, "none", 1, 11, 12, -13, -14, 15, 7);
    }

    private static void nearOfTwoNotes() {
        sentence("and that of neither the passage without its first note nor that without its last one is"
                + " (if those have two notes).");
        TuneFinder x = new TuneFinder();
        Tunes.shown(x, 0, 60, 61, 63);
        Tunes.hum(x, 0, 1);
        found(x, 5, 0, 1, "0,0,2,60,1/1");
        // all three passages are near, but that of three notes is so without its first or last one
        found(x, 5, 1, 2, "0,0,2,60,1/1 0,1,2,61,1/4");
        Tunes.hum(x, 0, 1, 3);
        found(x, 5, 0, 1, "0,0,3,60,1/1");
        found(x, 5, 1, 2, "0,0,2,60,2/3 0,1,2,61,2/3");
        // one step, and none of the query's: another one, and the rest put in
        TuneFinder y = new TuneFinder();
        Tunes.shown(y, 4, 60, 61);
        Tunes.hum(y, 10, 20, 30, 40, 50);
        found(y, 5, 3, 0, "");
        found(y, 5, 4, 1, "4,0,2,50,1/10");
        y.ask(60, 1);
        found(y, 5, 4, 0, "");
    }

    private static void shortestPassage() {
        sentence("A PASSAGE of a tune: SPAN (2 or more) of its notes one behind the other, from some place on.");
        TuneFinder x = new TuneFinder();
        Tunes.shown(x, 0, 60, 70, 90);
        // the one step taken out would make a row without steps, but one note is no passage
        Tunes.hum(x, 0, 1);
        found(x, 5, 0, 0, "");
        found(x, 5, 1, 2, "0,0,2,60,1/4 0,1,2,70,1/4");
        found(x, 5, 4, 2, "0,0,2,60,1/4 0,1,2,70,1/4");
    }

    private static void ties() {
        sentence("the greater score first; of equal ones, the lesser tune, then the lesser place,"
                + " then the lesser span.");
        TuneFinder x = new TuneFinder();
        Tunes.shown(x, 5, 60, 70, 60, 70);
        Tunes.shown(x, 2, 60, 70, 60, 70);
        Tunes.hum(x, 0, 10);
        found(x, 1, 0, 4, "2,0,2,60,1/1 2,2,2,60,1/1 5,0,2,60,1/1 5,2,2,60,1/1");
        found(x, 4, 2, 6, "2,0,2,60,1/1 2,2,2,60,1/1 5,0,2,60,1/1 5,2,2,60,1/1 2,0,4,60,1/2 5,0,4,60,1/2");
        // three steps stay in the first 4 notes, five in all 9: 16 / (7 4) and 36 / (7 9)
        TuneFinder y = new TuneFinder();
        Tunes.shown(y, 0, climb(63, 1, -1, 0, 0, -2, -1, 3, -3));
        Tunes.hum(y, climb(2, 1, -1, 0, -1, 2, -3));
        found(y, 5, 3, 2, "0,0,4,61,4/7 0,0,9,61,4/7");
    }

    private static void thirtyKept() {
        sentence("answers how many passages are found; the first 30 of them, in their order, are kept.");
        for (int count = 28; count <= 32; count++) {
            TuneFinder x = new TuneFinder();
            Tunes.shown(x, 0, new int[20]);
            Tunes.shown(x, 1, new int[count - 18]);
            Tunes.hum(x, 0, 0);
            StringBuilder all = new StringBuilder();
            for (int i = 0; i < Math.min(count, 30); i++) {
                all.append(i / 19).append(',').append(i % 19).append(",2,0,1/1 ");
            }
            found(x, 1, 0, count, all.toString().trim());
        }
        // a better one that comes when 30 are there pushes the last one out
        TuneFinder y = new TuneFinder();
        int[] other = new int[20];
        for (int i = 0; i < 20; i++) {
            other[i] = i / 2 * 7 + 40 * (i % 2);
        }
        Tunes.shown(y, 0, other);
        Tunes.shown(y, 1, other);
        Tunes.shown(y, 7, 1, 8);
        Tunes.hum(y, 0, 7);
        StringBuilder best = new StringBuilder("7,0,2,1,1/1 ");
        for (int i = 0; i < 29; i++) {
            int place = i % 18;
            best.append(i / 18).append(',').append(place).append(",3,").append(other[place]).append(",2/3 ");
        }
        found(y, 4, 1, 37, best.toString().trim());
        sentence("kept by the last search");
        Tunes.hum(y, 0, 1);
        found(y, 1, 0, 0, "");
    }

    private static void mostFound() {
        sentence("Searches: answers how many passages are found");
        TuneFinder x = new TuneFinder();
        for (int id = 0; id < 8; id++) {
            Tunes.shown(x, id, new int[20]);
        }
        Tunes.hum(x, 9, 9);
        // spans 2 to 6 from each of 15 places on, and 4, 3, 2 and 1 from the last ones
        check.due(8 * (15 * 5 + 10), "search(4, 4)", () -> x.search(4, 4));
        check.due(1, "match(29, 0)", () -> x.match(29, 0));
        check.due(10, "match(29, 1)", () -> x.match(29, 1));
        check.refused(INDEX, "match(30, 0)", () -> x.match(30, 0));
        check.due(8 * 19, "search(5, 4)", () -> x.search(5, 4));
    }

    private static void matchAsItWas() {
        sentence("3 how much higher its first note is than the query's, as they were then");
        TuneFinder x = new TuneFinder();
        Tunes.shown(x, 0, 127, 127);
        Tunes.shown(x, 1, 0, 0);
        Tunes.hum(x, 0, 0);
        found(x, 1, 0, 2, "0,0,2,127,1/1 1,0,2,0,1/1");
        x.correct(0, 0, 3, 1);
        check.due(127, "match(0, 3) after a correction", () -> x.match(0, 3));
        x.restore(0, 0);
        x.drop(1);
        check.due(1, "match(1, 0) after a drop", () -> x.match(1, 0));
        x.show(0, false);
        Tunes.hum(x, 127, 127);
        check.due(127, "match(0, 3) after another query", () -> x.match(0, 3));
        x.show(0, true);
        Tunes.shown(x, 2, 0, 0);
        found(x, 1, 0, 2, "0,0,2,0,1/1 2,0,2,-127,1/1");
    }

    private static void stepBehindTheLast() {
        sentence("2 the step behind it (0 behind the last one)");
        TuneFinder x = new TuneFinder();
        Tunes.hidden(x, 0, 60);
        check.due(0, "at(0, 0, 2, 0) of one note", () -> x.at(0, 0, 2, 0));
        x.note(0, 61, 1);
        check.due(1, "at(0, 0, 2, 0) of two", () -> x.at(0, 0, 2, 0));
        check.due(0, "at(0, 1, 2, 0) of two", () -> x.at(0, 1, 2, 0));
        x.correct(0, 1, 70, 1);
        check.due(0, "at(0, 1, 2, 0) in an old reading", () -> x.at(0, 1, 2, 0));
        check.due(0, "at(0, 1, 2, NONE)", () -> x.at(0, 1, 2, NONE));
        Tunes.hidden(x, 1, stair(60, 20));
        check.due(1, "at(1, 18, 2, 0)", () -> x.at(1, 18, 2, 0));
        check.due(0, "at(1, 19, 2, 0) of twenty", () -> x.at(1, 19, 2, 0));
    }

    private static void contourEnds() {
        sentence("for each step u, d or s (up, down, neither); NONE when there is none.");
        TuneFinder x = new TuneFinder();
        x.tune(0);
        for (int notes = 0; notes <= 20; notes++) {
            int steps = Math.max(notes - 1, 0);
            check.due(NONE, "contour(0, " + steps + ") of " + notes + " notes", () -> x.contour(0, steps));
            if (steps > 0) {
                check.due('u', "contour(0, " + (steps - 1) + ")", () -> x.contour(0, steps - 1));
            }
            if (notes < 20) {
                x.note(0, 60 + notes, 1);
            }
        }
        for (int i : new int[] {LEAST, -1, 19, 20, GREATEST}) {
            check.due(NONE, "contour(0, " + i + ")", () -> x.contour(0, i));
        }
    }

    private static void leastOfRepeats() {
        sentence("How many repeats of so many steps or more a tune has now.");
        TuneFinder x = new TuneFinder();
        x.tune(0);
        for (int notes = 0; notes <= 20; notes++) {
            // all steps the same: rows of 1 to all but one of them
            int most = Math.max(notes - 2, 0);
            check.due(most, "repeats(0, 1) of " + notes + " notes", () -> x.repeats(0, 1));
            if (notes < 20) {
                x.note(0, 60, 1);
            }
        }
        for (int least = 1; least <= 19; least++) {
            int from = least;
            check.due(19 - least, "repeats(0, " + least + ")", () -> x.repeats(0, from));
        }
    }

    private static void twoPlacesAtLeast() {
        sentence("that is in the tune's steps at two places at least, (these may overlap)");
        TuneFinder x = new TuneFinder();
        Tunes.hidden(x, 0, climb(60, 1, 2, 3));
        check.same("", Tunes.repeats(x, 0, 1), "each step at one place");
        x.note(0, 67, 1);
        check.same("0,1,2", Tunes.repeats(x, 0, 1), "1 at two places");
        x.note(0, 68, 1);
        check.same("0,1,3", Tunes.repeats(x, 0, 1), "1 at three places");
        // 4 4 at two places with a step in common
        Tunes.hidden(x, 1, climb(60, 4, 4, 4));
        check.same("0,1,3 0,2,2", Tunes.repeats(x, 1, 1), "places that overlap");
    }

    private static void endsOfTheSteps() {
        sentence("neither the steps before all of these places are there and the same,"
                + " nor the steps behind all of them");
        TuneFinder x = new TuneFinder();
        // 5 is at the first and at the last place, where no step is before and none behind
        Tunes.hidden(x, 0, climb(60, 5, 7, 5));
        check.same("0,1,2", Tunes.repeats(x, 0, 1), "repeats(0, 1)");
        Tunes.hidden(x, 1, climb(60, 1, 5, 1, 5));
        check.same("0,2,2", Tunes.repeats(x, 1, 1), "repeats(1, 1)");
        // 5 1 5 is there twice, the two with a step in common
        Tunes.hidden(x, 2, climb(60, 5, 1, 5, 1, 5));
        check.same("0,1,3 0,3,2", Tunes.repeats(x, 2, 1), "repeats(2, 1)");
        // always 1 before 5, but for the first place
        Tunes.hidden(x, 3, climb(60, 5, 2, 1, 5, 3));
        check.same("0,1,2", Tunes.repeats(x, 3, 1), "repeats(3, 1)");
        // always 1 behind 5, but for the last place
        Tunes.hidden(x, 4, climb(60, 2, 5, 1, 3, 5));
        check.same("1,1,2", Tunes.repeats(x, 4, 1), "repeats(4, 1)");
        // 127 and -127 are no step that is the same
        Tunes.hidden(x, 5, climb(0, 127, -127));
        check.same("", Tunes.repeats(x, 5, 1), "repeats(5, 1)");
    }

    private static void noSuchRepeat() {
        sentence("NONE when there is no such repeat.");
        TuneFinder x = new TuneFinder();
        x.tune(0);
        check.due(NONE, "repeat(0, 1, 0, 0) without notes", () -> x.repeat(0, 1, 0, 0));
        Tunes.hidden(x, 1, new int[20]);
        check.due(18, "repeat(1, 1, 17, 1), the last one", () -> x.repeat(1, 1, 17, 1));
        check.due(2, "repeat(1, 1, 17, 2)", () -> x.repeat(1, 1, 17, 2));
        check.due(0, "repeat(1, 18, 0, 0)", () -> x.repeat(1, 18, 0, 0));
        check.due(NONE, "repeat(1, 18, 1, 0)", () -> x.repeat(1, 18, 1, 0));
        check.due(NONE, "repeat(1, 19, 0, 0)", () -> x.repeat(1, 19, 0, 0));
        for (int i : new int[] {LEAST, -1, 18, GREATEST}) {
            for (int what = 0; what < 3; what++) {
                int which = what;
                check.due(NONE, "repeat(1, 1, " + i + ", " + what + ")", () -> x.repeat(1, 1, i, which));
            }
        }
    }

    private static void canonOfTwoAndTwenty() {
        sentence("with the same steps and the same lengths; NONE when there is none.");
        TuneFinder x = new TuneFinder();
        Tunes.hidden(x, 0, stair(0, 20));
        Tunes.hidden(x, 1, stair(108, 20));
        check.due(0, "canon(0, 1, 20)", () -> x.canon(0, 1, 20));
        check.due(0, "canon(1, 0, 20)", () -> x.canon(1, 0, 20));
        Tunes.hidden(x, 2, 127, 0);
        check.due(NONE, "canon(0, 2, 2)", () -> x.canon(0, 2, 2));
        check.due(NONE, "canon(0, 2, 3), of more than it has", () -> x.canon(0, 2, 3));
        check.due(NONE, "canon(2, 0, 3), of more than it has", () -> x.canon(2, 0, 3));
        x.correct(0, 18, 127, 1);
        x.correct(0, 19, 0, 1);
        check.due(18, "canon(0, 2, 2), the last two", () -> x.canon(0, 2, 2));
        check.due(NONE, "canon(0, 1, 20), with other steps", () -> x.canon(0, 1, 20));
        check.due(0, "canon(0, 1, 18)", () -> x.canon(0, 1, 18));
        x.correct(0, 19, 0, 2);
        check.due(NONE, "canon(0, 2, 2), the last length another one", () -> x.canon(0, 2, 2));
        x.restore(0, 2);
        x.correct(0, 18, 127, 64);
        check.due(NONE, "canon(0, 2, 2), the first length another one", () -> x.canon(0, 2, 2));
        Tunes.hidden(x, 3, 60);
        x.tune(4);
        check.due(NONE, "canon(3, 4, 2) of one note by none", () -> x.canon(3, 4, 2));
        check.due(NONE, "canon(4, 3, 20) of none by one note", () -> x.canon(4, 3, 20));
    }

    private static void canonOfItself() {
        sentence("(or of itself, then from a place behind 0 on)");
        TuneFinder x = new TuneFinder();
        Tunes.hidden(x, 0, stair(0, 20));
        check.due(1, "canon(0, 0, 2)", () -> x.canon(0, 0, 2));
        check.due(1, "canon(0, 0, 19)", () -> x.canon(0, 0, 19));
        check.due(NONE, "canon(0, 0, 20)", () -> x.canon(0, 0, 20));
        Tunes.hidden(x, 1, 60, 61);
        check.due(NONE, "canon(1, 1, 2) of two notes", () -> x.canon(1, 1, 2));
        Tunes.hidden(x, 2, 60, 61, 62);
        check.due(1, "canon(2, 2, 2) of three notes", () -> x.canon(2, 2, 2));
        x.tune(3);
        check.due(NONE, "canon(3, 3, 2) without notes", () -> x.canon(3, 3, 2));
    }

    private static void openingEnds() {
        sentence("the i-th one (from 0); NONE when there is none such.");
        TuneFinder x = new TuneFinder();
        Tunes.shown(x, 3, stair(0, 20));
        for (int i : new int[] {LEAST, -1, 0, 1, GREATEST}) {
            check.due(NONE, "opening(3, " + i + ") with none other", () -> x.opening(3, i));
        }
        for (int id = 0; id < 8; id++) {
            if (id != 3) {
                Tunes.hidden(x, id, stair(id, 20));
            }
        }
        check.due(NONE, "opening(3, 0) with none other shown", () -> x.opening(3, 0));
        for (int id = 7; id >= 0; id--) {
            if (id != 3) {
                x.show(id, true);
            }
        }
        int[] order = {0, 1, 2, 4, 5, 6, 7, NONE, NONE};
        for (int i = 0; i < order.length; i++) {
            int at = i;
            check.due(order[i], "opening(3, " + i + ") with all shown", () -> x.opening(3, at));
        }
        x.correct(0, 19, 127, 1);
        check.due(0, "opening(3, 6), all but the last step shared", () -> x.opening(3, 6));
        x.show(3, false);
        check.due(1, "opening(3, 0) of one that is not shown", () -> x.opening(3, 0));
    }

    private static void openingOfShortTunes() {
        sentence("in order by how many first steps they share with a tune (most first, then the lesser number)");
        TuneFinder x = new TuneFinder();
        Tunes.shown(x, 1, 60, 59);
        Tunes.shown(x, 2, 60, 61);
        Tunes.shown(x, 5, 70, 71, 72);
        x.tune(6);
        for (int notes = 0; notes < 2; notes++) {
            check.due(1, "opening(6, 0) with " + notes + " notes", () -> x.opening(6, 0));
            check.due(2, "opening(6, 1) with " + notes + " notes", () -> x.opening(6, 1));
            check.due(5, "opening(6, 2) with " + notes + " notes", () -> x.opening(6, 2));
            check.due(NONE, "opening(6, 3) with " + notes + " notes", () -> x.opening(6, 3));
            x.note(6, 10, 1);
        }
        x.drop(6);
        // 5 shares two steps, 2 has but one
        Tunes.hidden(x, 6, stair(10, 20));
        check.due(5, "opening(6, 0)", () -> x.opening(6, 0));
        check.due(2, "opening(6, 1)", () -> x.opening(6, 1));
        check.due(1, "opening(6, 2), which shares none", () -> x.opening(6, 2));
        check.due(NONE, "opening(6, 3)", () -> x.opening(6, 3));
    }

    /** The pitches of a row of steps, from a first one on. */
    private static int[] climb(int first, int... steps) {
        int[] pitches = new int[steps.length + 1];
        pitches[0] = first;
        for (int i = 0; i < steps.length; i++) {
            pitches[i + 1] = pitches[i] + steps[i];
        }
        return pitches;
    }
}
