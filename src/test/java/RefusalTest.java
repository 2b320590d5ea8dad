import java.util.ArrayList;
import java.util.List;
import java.util.function.Supplier;

/**
 * Each sentence of the document that names exceptions: all arguments at and beyond its edges, each
 * with each, on a catalogue with tunes of every sort. What is due is written in the order of the
 * sentence, so that of several exceptions the one named first is asked for; and the object must be
 * as it was behind the refused calls.
 */
public final class RefusalTest {
    private static final String NOTHING = "nothing";
    private static final String INDEX = "IndexOutOfBoundsException";
    private static final String ARGUMENT = "IllegalArgumentException";
    private static final String STATE = "IllegalStateException";

    private static final int LEAST = Integer.MIN_VALUE;
    private static final int GREATEST = Integer.MAX_VALUE;
    private static final int[] IDS = {LEAST, -1, 0, 1, 2, 3, 4, 5, 6, 7, 8, GREATEST};
    private static final int[] PITCHES = {LEAST, -1, 0, 127, 128, GREATEST};
    private static final int[] LENGTHS = {LEAST, -1, 0, 1, 64, 65, GREATEST};
    private static final int[] PLACES = {LEAST, -1, 0, 1, 2, 3, 4, 5, 19, 20, GREATEST};
    private static final int[] READINGS = {LEAST, -2, -1, 0, 1, 2, 8, 9, GREATEST};
    private static final int[] WHATS = {LEAST, -1, 0, 1, 2, 3, GREATEST};
    private static final int[] NUMBERS = {LEAST, -1, 0, 1, 29, 30, 31, GREATEST};
    private static final int[] LEASTS = {LEAST, -1, 0, 1, 18, 19, 20, GREATEST};

    /** So many refused calls leave an object calls enough to tell its state. */
    private static final int REFUSED_AT_ONCE = 150;

    private static final Check check = new Check();
    private static final Document document = new Document();

    private static int sentences;

    /** What is due for some arguments. */
    private interface Due {
        String of(int[] a);
    }

    /** A call with some arguments. */
    private interface Act {
        void on(TuneFinder x, int[] a);
    }

    public static void main(String[] args) {
        tunes();
        notes();
        readings();
        rows();
        query();
        matches();
        everySentenceHasItsTest();
        check.end();
    }

    private static void tunes() {
        sentence(2, "IndexOutOfBoundsException when id is not 0 .. 7; IllegalStateException when it is there.");
        sweep("tune", new int[][] {IDS}, (x, a) -> x.tune(a[0]),
                a -> a[0] < 0 || a[0] > 7 ? INDEX : Mixed.there(a[0]) ? STATE : NOTHING);

        sentence(3, "IndexOutOfBoundsException when it is not.");
        sweep("drop", new int[][] {IDS}, (x, a) -> x.drop(a[0]),
                a -> Mixed.there(a[0]) ? NOTHING : INDEX);

        sentence(5, "IndexOutOfBoundsException when there is no such tune;"
                + " IllegalStateException when it is so, or has less than 2 notes.");
        sweep("show", new int[][] {IDS, {0, 1}}, (x, a) -> x.show(a[0], a[1] == 1),
                a -> !Mixed.there(a[0]) ? INDEX
                        : Mixed.shown(a[0]) == (a[1] == 1) || Mixed.notes(a[0]) < 2 ? STATE : NOTHING);

        sentence(9, "IndexOutOfBoundsException when there is no such tune;"
                + " IllegalArgumentException when what is none of these.");
        sweep("about", new int[][] {IDS, WHATS}, (x, a) -> x.about(a[0], a[1]),
                a -> !Mixed.there(a[0]) ? INDEX : within(a[1], 0, 2) ? NOTHING : ARGUMENT);
    }

    private static void notes() {
        sentence(4, "IndexOutOfBoundsException when there is no such tune;"
                + " IllegalArgumentException when pitch or length is none;"
                + " IllegalStateException when it is shown, has more than one reading, or has 20 notes.");
        sweep("note", new int[][] {IDS, PITCHES, LENGTHS}, (x, a) -> x.note(a[0], a[1], a[2]),
                a -> !Mixed.there(a[0]) ? INDEX : !isNote(a[1], a[2]) ? ARGUMENT
                        : Mixed.shown(a[0]) || Mixed.readings(a[0]) > 1 || Mixed.notes(a[0]) == 20 ? STATE
                        : NOTHING);

        sentence(6, "IndexOutOfBoundsException when there is no such tune or place;"
                + " IllegalArgumentException when pitch or length is none;"
                + " IllegalStateException when there are 9 readings.");
        sweep("correct", new int[][] {IDS, PLACES, PITCHES, LENGTHS},
                (x, a) -> x.correct(a[0], a[1], a[2], a[3]),
                a -> !Mixed.there(a[0]) || !Mixed.hasPlace(a[0], a[1]) ? INDEX
                        : !isNote(a[2], a[3]) ? ARGUMENT : Mixed.readings(a[0]) == 9 ? STATE : NOTHING);
    }

    private static void readings() {
        sentence(7, "IndexOutOfBoundsException when there is no such tune or reading.");
        sweep("restore", new int[][] {IDS, READINGS}, (x, a) -> x.restore(a[0], a[1]),
                a -> Mixed.there(a[0]) && Mixed.hasReading(a[0], a[1]) ? NOTHING : INDEX);

        sentence(8, "IndexOutOfBoundsException when there is no such tune, place or reading;"
                + " IllegalArgumentException when what is none of these.");
        sweep("at", new int[][] {IDS, PLACES, WHATS, READINGS}, (x, a) -> x.at(a[0], a[1], a[2], a[3]),
                a -> !Mixed.there(a[0]) || !Mixed.hasPlace(a[0], a[1])
                        || a[3] != TuneFinder.NONE && !Mixed.hasReading(a[0], a[3]) ? INDEX
                        : within(a[2], 0, 2) ? NOTHING : ARGUMENT);
    }

    private static void rows() {
        sentence(10, "IndexOutOfBoundsException when there is no such tune.");
        sweep("contour", new int[][] {IDS, PLACES}, (x, a) -> x.contour(a[0], a[1]),
                a -> Mixed.there(a[0]) ? NOTHING : INDEX);

        sentence(15, "IndexOutOfBoundsException when there is no such tune;"
                + " IllegalArgumentException when least is not 1 .. 19.");
        sweep("repeats", new int[][] {IDS, LEASTS}, (x, a) -> x.repeats(a[0], a[1]),
                a -> !Mixed.there(a[0]) ? INDEX : within(a[1], 1, 19) ? NOTHING : ARGUMENT);

        sentence(16, "IndexOutOfBoundsException when there is no such tune;"
                + " IllegalArgumentException when least is not 1 .. 19, or what is none of these.");
        sweep("repeat", new int[][] {IDS, LEASTS, NUMBERS, WHATS},
                (x, a) -> x.repeat(a[0], a[1], a[2], a[3]),
                a -> !Mixed.there(a[0]) ? INDEX
                        : within(a[1], 1, 19) && within(a[3], 0, 2) ? NOTHING : ARGUMENT);

        sentence(17, "IndexOutOfBoundsException when there is no such tune;"
                + " IllegalArgumentException when n is not 2 .. 20.");
        sweep("canon", new int[][] {IDS, IDS, {LEAST, -1, 0, 1, 2, 20, 21, GREATEST}},
                (x, a) -> x.canon(a[0], a[1], a[2]),
                a -> !Mixed.there(a[0]) || !Mixed.there(a[1]) ? INDEX
                        : within(a[2], 2, 20) ? NOTHING : ARGUMENT);

        sentence(18, "IndexOutOfBoundsException when there is no such tune.");
        sweep("opening", new int[][] {IDS, NUMBERS}, (x, a) -> x.opening(a[0], a[1]),
                a -> Mixed.there(a[0]) ? NOTHING : INDEX);
    }

    private static void query() {
        sentence(11, "IllegalArgumentException when pitch or length is none; IllegalStateException when it has 8.");
        for (int asked = 0; asked <= 8; asked++) {
            int has = asked;
            sweep("ask behind " + asked, () -> asked(has), new int[][] {PITCHES, LENGTHS},
                    (x, a) -> x.ask(a[0], a[1]),
                    a -> !isNote(a[0], a[1]) ? ARGUMENT : has == 8 ? STATE : NOTHING);
        }

        sentence(13, "IllegalArgumentException when kind is not 0 .. 5, or k not 0 .. 4;"
                + " IllegalStateException when the query has less than 2 notes.");
        for (int asked = 0; asked <= 8; asked++) {
            int has = asked;
            sweep("search for " + asked + " notes", () -> asked(has),
                    new int[][] {{LEAST, -1, 0, 1, 2, 3, 4, 5, 6, GREATEST}, {LEAST, -1, 0, 1, 2, 3, 4, 5, GREATEST}},
                    (x, a) -> x.search(a[0], a[1]),
                    a -> !within(a[0], 0, 5) || !within(a[1], 0, 4) ? ARGUMENT : has < 2 ? STATE : NOTHING);
        }
    }

    private static void matches() {
        sentence(14, "IndexOutOfBoundsException when there is none such;"
                + " IllegalArgumentException when what is none of these.");
        int[] whats = {LEAST, -1, 0, 1, 2, 3, 4, 5, 6, GREATEST};
        for (int count : new int[] {0, 1, 2, 29, 30, 31, 32}) {
            sweep("match of " + count, () -> found(count), new int[][] {NUMBERS, whats},
                    (x, a) -> x.match(a[0], a[1]),
                    a -> a[0] < 0 || a[0] >= Math.min(count, 30) ? INDEX : within(a[1], 0, 5) ? NOTHING : ARGUMENT);
        }
        sweep("match of a new object", TuneFinder::new, new int[][] {NUMBERS, whats},
                (x, a) -> x.match(a[0], a[1]), a -> INDEX);
    }

    /** The mixed catalogue, something found, and then a query of so many notes. */
    private static TuneFinder asked(int count) {
        TuneFinder x = Mixed.catalogue();
        Tunes.hum(x, 60, 61);
        x.search(4, 4);
        x.forget();
        for (int i = 0; i < count; i++) {
            // as the tunes begin, so that each kind finds something
            x.ask(60 + i * i % 5, 1 + i % 3);
        }
        return x;
    }

    /** A catalogue where just so many passages have been found. */
    private static TuneFinder found(int count) {
        TuneFinder x = new TuneFinder();
        int left = count;
        for (int id = 0; left > 0; id++) {
            int steps = Math.min(left, 19);
            Tunes.shown(x, id, new int[steps + 1]);
            left -= steps;
        }
        Tunes.hum(x, 5, 5);
        x.search(1, 0);
        return x;
    }

    private static boolean within(int number, int least, int most) {
        return least <= number && number <= most;
    }

    private static boolean isNote(int pitch, int length) {
        return within(pitch, 0, 127) && within(length, 1, 64);
    }

    private static void sentence(int promise, String words) {
        sentences++;
        check.promise(promise + ": " + words);
        check.same(document.refusals(promise), words, "the document's words");
    }

    private static void everySentenceHasItsTest() {
        check.promise("every sentence that names an exception has its test");
        int named = 0;
        for (int promise = 1; promise <= Document.PROMISES; promise++) {
            named += document.refusals(promise).isEmpty() ? 0 : 1;
        }
        check.same(Integer.toString(named), Integer.toString(sentences), "sentences");
        check.promise("the last sentence of the terms");
        check.same("true", "" + document.has("A call that throws changes nothing; where several exceptions"
                + " that a call names fit, the one named first is thrown."), "is in the document");
    }

    private static void sweep(String name, int[][] values, Act act, Due due) {
        sweep(name, () -> asked(3), values, act, due);
    }

    /** All the values, each with each, on a new object each; then the refused ones in a row. */
    private static void sweep(String name, Supplier<TuneFinder> made, int[][] values, Act act, Due due) {
        List<int[]> refused = new ArrayList<>();
        int[] chosen = new int[values.length];
        do {
            int[] arguments = arguments(values, chosen);
            String want = due.of(arguments);
            TuneFinder x = made.get();
            check.same(want, Check.outcome(() -> act.on(x, arguments)), told(name, arguments));
            if (!want.equals(NOTHING)) {
                refused.add(arguments);
            }
        } while (next(values, chosen));
        changesNothing(name, made, act, refused);
    }

    private static void changesNothing(String name, Supplier<TuneFinder> made, Act act, List<int[]> refused) {
        String before = State.of(made);
        for (int from = 0; from < refused.size(); from += REFUSED_AT_ONCE) {
            List<int[]> some = refused.subList(from, Math.min(from + REFUSED_AT_ONCE, refused.size()));
            String after = State.of(() -> {
                TuneFinder x = made.get();
                for (int[] arguments : some) {
                    Check.outcome(() -> act.on(x, arguments));
                }
                return x;
            });
            check.same(before, after, "refused calls from " + told(name, some.get(0)) + " on");
        }
    }

    private static int[] arguments(int[][] values, int[] chosen) {
        int[] arguments = new int[values.length];
        for (int i = 0; i < values.length; i++) {
            arguments[i] = values[i][chosen[i]];
        }
        return arguments;
    }

    /** Goes on to the next choice, like a counter; false when there is none. */
    private static boolean next(int[][] values, int[] chosen) {
        for (int i = 0; i < values.length; i++) {
            chosen[i]++;
            if (chosen[i] < values[i].length) {
                return true;
            }
            chosen[i] = 0;
        }
        return false;
    }

    private static String told(String name, int[] arguments) {
        StringBuilder told = new StringBuilder(name).append('(');
        for (int i = 0; i < arguments.length; i++) {
            told.append(i == 0 ? "" : ", ").append(arguments[i]);
        }
        return told.append(')').toString();
    }
}
