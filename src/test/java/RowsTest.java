/** Promises 15 to 18: repeats, canons and openings. */
public final class RowsTest {
    private static final Class<IndexOutOfBoundsException> INDEX = IndexOutOfBoundsException.class;
    private static final Class<IllegalArgumentException> ARGUMENT = IllegalArgumentException.class;
    private static final int LEAST = Integer.MIN_VALUE;
    private static final int GREATEST = Integer.MAX_VALUE;

    private static final Check check = new Check();

    public static void main(String[] args) {
        repeats();
        repeat();
        canon();
        opening();
        check.end();
    }

    /** A tune with such steps, from pitch 60 on. */
    private static void steps(TuneFinder x, int id, int... steps) {
        x.tune(id);
        int pitch = 60;
        x.note(id, pitch, 1);
        for (int step : steps) {
            pitch += step;
            x.note(id, pitch, 1);
        }
    }

    private static void repeats() {
        check.promise("15 repeats");
        TuneFinder x = new TuneFinder();
        check.refused(INDEX, "repeats(0, 0)", () -> x.repeats(0, 0));
        x.tune(0);
        check.due(0, "repeats without notes", () -> x.repeats(0, 1));
        x.note(0, 60, 1);
        check.due(0, "repeats of one note", () -> x.repeats(0, 1));
        for (int least : new int[] {0, -1, 20, LEAST, GREATEST}) {
            check.refused(ARGUMENT, "repeats(0, " + least + ")", () -> x.repeats(0, least));
        }
        check.due(0, "repeats(0, 19)", () -> x.repeats(0, 19));
        steps(x, 1, 1, 2, 3, 4);
        check.due(0, "repeats of steps that are all others", () -> x.repeats(1, 1));
        // 1 2 comes three times, 1 2 3 twice; 2 3 is always behind 1, and 1 always before 2
        steps(x, 2, 1, 2, 3, 5, 1, 2, 3, 7, 1, 2);
        check.same("0,2,3 0,3,2", Tunes.repeats(x, 2, 1), "repeats(2, 1)");
        check.same("0,3,2", Tunes.repeats(x, 2, 3), "repeats(2, 3)");
        check.due(0, "repeats(2, 4)", () -> x.repeats(2, 4));
        // all the same: rows that overlap, each one at the beginning
        steps(x, 3, 0, 0, 0, 0);
        check.same("0,1,4 0,2,3 0,3,2", Tunes.repeats(x, 3, 1), "repeats(3, 1)");
        int[] zeros = new int[19];
        steps(x, 4, zeros);
        check.due(18, "repeats(4, 1)", () -> x.repeats(4, 1));
        check.due(1, "repeats(4, 18)", () -> x.repeats(4, 18));
        check.due(0, "repeats(4, 19)", () -> x.repeats(4, 19));
        x.correct(3, 1, 61, 1);
        check.same("2,1,2", Tunes.repeats(x, 3, 1), "repeats now");
    }

    private static void repeat() {
        check.promise("16 repeat");
        TuneFinder x = new TuneFinder();
        check.refused(INDEX, "repeat(0, 0, 0, 9)", () -> x.repeat(0, 0, 0, 9));
        // the order is by the first place, not by when a row comes again
        steps(x, 0, 9, 1, 2, 8, 1, 2, 7, 9, 6, 2);
        check.same("0,1,2 1,2,2 2,1,3", Tunes.repeats(x, 0, 1), "repeats(0, 1)");
        check.due(1, "repeat(0, 2, 0, 0)", () -> x.repeat(0, 2, 0, 0));
        check.due(2, "repeat(0, 2, 0, 1)", () -> x.repeat(0, 2, 0, 1));
        check.due(2, "repeat(0, 2, 0, 2)", () -> x.repeat(0, 2, 0, 2));
        for (int i : new int[] {-1, 3, LEAST, GREATEST}) {
            for (int what = 0; what < 3; what++) {
                int which = what;
                check.due(-1, "repeat(0, 1, " + i + ", " + what + ")", () -> x.repeat(0, 1, i, which));
            }
            check.refused(ARGUMENT, "repeat(0, 1, " + i + ", 3)", () -> x.repeat(0, 1, i, 3));
        }
        for (int what : new int[] {-1, 3, LEAST, GREATEST}) {
            check.refused(ARGUMENT, "repeat(0, 1, 0, " + what + ")", () -> x.repeat(0, 1, 0, what));
        }
        for (int least : new int[] {0, -1, 20, LEAST, GREATEST}) {
            check.refused(ARGUMENT, "repeat(0, " + least + ", 0, 0)", () -> x.repeat(0, least, 0, 0));
        }
        check.refused(INDEX, "repeat(8, 1, 0, 0)", () -> x.repeat(8, 1, 0, 0));
    }

    private static void canon() {
        check.promise("17 canon");
        TuneFinder x = new TuneFinder();
        Tunes.hidden(x, 0, 50, 60, 62, 65, 70, 72, 75);
        Tunes.hidden(x, 1, 10, 12, 15, 20);
        check.refused(INDEX, "canon(0, 2, 1)", () -> x.canon(0, 2, 1));
        check.refused(INDEX, "canon(2, 0, 1)", () -> x.canon(2, 0, 1));
        check.refused(INDEX, "canon(0, 8, 2)", () -> x.canon(0, 8, 2));
        check.refused(INDEX, "canon(-1, 0, 2)", () -> x.canon(-1, 0, 2));
        for (int n : new int[] {1, 0, -1, 21, LEAST, GREATEST}) {
            check.refused(ARGUMENT, "canon(0, 1, " + n + ")", () -> x.canon(0, 1, n));
        }
        check.due(1, "canon(0, 1, 3)", () -> x.canon(0, 1, 3));
        check.due(1, "canon(0, 1, 4)", () -> x.canon(0, 1, 4));
        check.due(-1, "canon(0, 1, 5), more than the other has", () -> x.canon(0, 1, 5));
        check.due(-1, "canon(0, 1, 20)", () -> x.canon(0, 1, 20));
        check.due(-1, "canon(1, 0, 3)", () -> x.canon(1, 0, 3));
        x.correct(0, 1, 60, 2);
        check.due(4, "canon(0, 1, 3), with other lengths before", () -> x.canon(0, 1, 3));
        check.due(-1, "canon(0, 1, 4) now", () -> x.canon(0, 1, 4));
        x.correct(1, 0, 10, 2);
        x.correct(1, 1, 12, 2);
        check.due(-1, "canon(0, 1, 3), lengths of the same ratio only", () -> x.canon(0, 1, 3));
        Tunes.hidden(x, 3, 60, 62, 64, 66);
        check.due(1, "canon(3, 3, 3), itself from behind 0 on", () -> x.canon(3, 3, 3));
        check.due(-1, "canon(3, 3, 4)", () -> x.canon(3, 3, 4));
        Tunes.hidden(x, 4, 30, 32, 34, 36);
        check.due(0, "canon(3, 4, 4)", () -> x.canon(3, 4, 4));
        x.tune(5);
        check.due(-1, "canon(5, 5, 2) without notes", () -> x.canon(5, 5, 2));
        check.due(-1, "canon(3, 5, 2) by one without notes", () -> x.canon(3, 5, 2));
        check.due(-1, "canon(5, 3, 2) of one without notes", () -> x.canon(5, 3, 2));
    }

    private static void opening() {
        check.promise("18 opening");
        TuneFinder x = new TuneFinder();
        check.refused(INDEX, "opening(0, 0)", () -> x.opening(0, 0));
        check.refused(INDEX, "opening(8, -1)", () -> x.opening(8, -1));
        x.tune(0);
        check.due(-1, "opening(0, 0) with none other", () -> x.opening(0, 0));
        Tunes.shown(x, 1, 10, 20, 30);
        Tunes.shown(x, 2, 60, 62, 65, 69);
        Tunes.shown(x, 3, 50, 52, 54);
        Tunes.shown(x, 4, 40, 42, 45);
        Tunes.hidden(x, 5, 60, 62, 65, 69);
        openings(x, 0, 1, 2, 3, 4);
        int pitch = 0;
        for (int step : new int[] {0, 2, 3, 4}) {
            pitch += step;
            x.note(0, pitch, 9);
        }
        openings(x, 0, 2, 4, 3, 1);
        openings(x, 2, 4, 3, 1);
        openings(x, 5, 2, 4, 3, 1);
        x.show(5, true);
        openings(x, 0, 2, 5, 4, 3, 1);
        openings(x, 3, 2, 4, 5, 1);
        x.correct(2, 0, 61, 1);
        openings(x, 0, 5, 4, 3, 1, 2);
        x.drop(4);
        openings(x, 0, 5, 3, 1, 2);
        check.due(-1, "opening(0, least)", () -> x.opening(0, LEAST));
        check.due(-1, "opening(0, greatest)", () -> x.opening(0, GREATEST));
        int[] zeros = new int[20];
        TuneFinder y = new TuneFinder();
        Tunes.shown(y, 6, zeros);
        Tunes.shown(y, 7, zeros);
        openings(y, 6, 7);
    }

    private static void openings(TuneFinder x, int id, int... order) {
        for (int i = 0; i < order.length; i++) {
            int at = i;
            check.due(order[i], "opening(" + id + ", " + i + ")", () -> x.opening(id, at));
        }
        check.due(-1, "opening(" + id + ", " + order.length + ")", () -> x.opening(id, order.length));
        check.due(-1, "opening(" + id + ", -1)", () -> x.opening(id, -1));
    }
}
