/** Promises 1 to 10: tunes, their notes and their readings. */
public final class CatalogueTest {
    private static final Class<IndexOutOfBoundsException> INDEX = IndexOutOfBoundsException.class;
    private static final Class<IllegalArgumentException> ARGUMENT = IllegalArgumentException.class;
    private static final Class<IllegalStateException> STATE = IllegalStateException.class;
    private static final int LEAST = Integer.MIN_VALUE;
    private static final int GREATEST = Integer.MAX_VALUE;

    private static final Check check = new Check();

    public static void main(String[] args) {
        newObject();
        tune();
        drop();
        note();
        show();
        correct();
        restore();
        at();
        about();
        contour();
        check.end();
    }

    private static void newObject() {
        check.promise("1 a new object");
        check.due(-1, "NONE", () -> TuneFinder.NONE);
        TuneFinder x = new TuneFinder();
        for (int id = 0; id < 8; id++) {
            int tune = id;
            check.refused(INDEX, "about(" + id + ", 0)", () -> x.about(tune, 0));
        }
        check.refused(INDEX, "match(0, 0)", () -> x.match(0, 0));
        check.refused(STATE, "search(0, 0)", () -> x.search(0, 0));
        check.due(1, "ask(60, 1)", () -> x.ask(60, 1));
        check.due(2, "ask(60, 1)", () -> x.ask(60, 1));
        check.due(0, "search(0, 0)", () -> x.search(0, 0));
        TuneFinder y = new TuneFinder();
        x.tune(0);
        check.refused(INDEX, "about(0, 0) of another object", () -> y.about(0, 0));
    }

    private static void tune() {
        check.promise("2 tune");
        TuneFinder x = new TuneFinder();
        for (int wrong : new int[] {-1, 8, LEAST, GREATEST}) {
            check.refused(INDEX, "tune(" + wrong + ")", () -> x.tune(wrong));
        }
        for (int id = 0; id < 8; id++) {
            int tune = id;
            check.done("tune(" + id + ")", () -> x.tune(tune));
            check.refused(STATE, "tune(" + id + ")", () -> x.tune(tune));
            check.due(0, "about(" + id + ", 0)", () -> x.about(tune, 0));
            check.due(0, "about(" + id + ", 1)", () -> x.about(tune, 1));
            check.due(1, "about(" + id + ", 2)", () -> x.about(tune, 2));
        }
        x.note(3, 60, 4);
        check.refused(STATE, "tune(3)", () -> x.tune(3));
        check.due(1, "about(3, 0)", () -> x.about(3, 0));
    }

    private static void drop() {
        check.promise("3 drop");
        TuneFinder x = new TuneFinder();
        for (int wrong : new int[] {-1, 0, 7, 8, LEAST, GREATEST}) {
            check.refused(INDEX, "drop(" + wrong + ")", () -> x.drop(wrong));
        }
        Tunes.shown(x, 7, 60, 62);
        x.correct(7, 0, 61, 1);
        Tunes.hum(x, 1, 2);
        check.due(1, "search(1, 0)", () -> x.search(1, 0));
        check.done("drop(7)", () -> x.drop(7));
        check.refused(INDEX, "drop(7)", () -> x.drop(7));
        check.refused(INDEX, "about(7, 0)", () -> x.about(7, 0));
        check.due(7, "match(0, 0) after the drop", () -> x.match(0, 0));
        check.due(0, "search(1, 0) after the drop", () -> x.search(1, 0));
        check.done("tune(7) anew", () -> x.tune(7));
        check.due(0, "about(7, 0)", () -> x.about(7, 0));
        check.due(0, "about(7, 1)", () -> x.about(7, 1));
        check.due(1, "about(7, 2)", () -> x.about(7, 2));
        check.due(1, "note(7, 50, 1)", () -> x.note(7, 50, 1));
        check.due(50, "at(7, 0, 0, 0)", () -> x.at(7, 0, 0, 0));
    }

    private static void note() {
        check.promise("4 note");
        TuneFinder x = new TuneFinder();
        check.refused(INDEX, "note(0, 60, 1)", () -> x.note(0, 60, 1));
        check.refused(INDEX, "note(8, 128, 0)", () -> x.note(8, 128, 0));
        check.refused(INDEX, "note(-1, 60, 1)", () -> x.note(-1, 60, 1));
        x.tune(0);
        for (int pitch : new int[] {-1, 128, LEAST, GREATEST}) {
            check.refused(ARGUMENT, "note(0, " + pitch + ", 1)", () -> x.note(0, pitch, 1));
        }
        for (int length : new int[] {-1, 0, 65, LEAST, GREATEST}) {
            check.refused(ARGUMENT, "note(0, 60, " + length + ")", () -> x.note(0, 60, length));
        }
        check.due(1, "note(0, 0, 1)", () -> x.note(0, 0, 1));
        check.due(2, "note(0, 127, 64)", () -> x.note(0, 127, 64));
        check.due(0, "at(0, 0, 0, -1)", () -> x.at(0, 0, 0, -1));
        check.due(127, "at(0, 1, 0, -1)", () -> x.at(0, 1, 0, -1));
        check.due(64, "at(0, 1, 1, -1)", () -> x.at(0, 1, 1, -1));
        x.show(0, true);
        check.refused(STATE, "note of a shown tune", () -> x.note(0, 60, 1));
        check.refused(ARGUMENT, "wrong note of a shown tune", () -> x.note(0, 60, 0));
        x.show(0, false);
        check.due(3, "note(0, 60, 1)", () -> x.note(0, 60, 1));
        x.correct(0, 0, 1, 1);
        check.refused(STATE, "note with two readings", () -> x.note(0, 60, 1));
        x.restore(0, 0);
        for (int count = 4; count <= 20; count++) {
            check.due(count, "note " + count, () -> x.note(0, 60, 1));
        }
        check.refused(STATE, "note 21", () -> x.note(0, 60, 1));
        check.refused(ARGUMENT, "wrong note 21", () -> x.note(0, 128, 1));
        check.due(20, "about(0, 0)", () -> x.about(0, 0));
    }

    private static void show() {
        check.promise("5 show");
        TuneFinder x = new TuneFinder();
        check.refused(INDEX, "show(0, true)", () -> x.show(0, true));
        check.refused(INDEX, "show(8, false)", () -> x.show(8, false));
        x.tune(0);
        check.refused(STATE, "show without notes", () -> x.show(0, true));
        x.note(0, 60, 1);
        check.refused(STATE, "show with one note", () -> x.show(0, true));
        x.note(0, 60, 1);
        check.refused(STATE, "show(0, false) when not shown", () -> x.show(0, false));
        check.done("show(0, true)", () -> x.show(0, true));
        check.due(1, "about(0, 1)", () -> x.about(0, 1));
        check.refused(STATE, "show(0, true) when shown", () -> x.show(0, true));
        check.done("show(0, false)", () -> x.show(0, false));
        check.due(0, "about(0, 1)", () -> x.about(0, 1));
    }

    private static void correct() {
        check.promise("6 correct");
        TuneFinder x = new TuneFinder();
        check.refused(INDEX, "correct(0, 0, 60, 1)", () -> x.correct(0, 0, 60, 1));
        x.tune(0);
        check.refused(INDEX, "correct without notes", () -> x.correct(0, 0, 60, 1));
        x.note(0, 60, 1);
        x.note(0, 62, 2);
        for (int place : new int[] {-1, 2, LEAST, GREATEST}) {
            check.refused(INDEX, "correct(0, " + place + ", 128, 0)", () -> x.correct(0, place, 128, 0));
        }
        check.refused(ARGUMENT, "correct(0, 0, -1, 1)", () -> x.correct(0, 0, -1, 1));
        check.refused(ARGUMENT, "correct(0, 0, 128, 1)", () -> x.correct(0, 0, 128, 1));
        check.refused(ARGUMENT, "correct(0, 0, 60, 0)", () -> x.correct(0, 0, 60, 0));
        check.refused(ARGUMENT, "correct(0, 0, 60, 65)", () -> x.correct(0, 0, 60, 65));
        check.due(1, "about(0, 2)", () -> x.about(0, 2));
        x.show(0, true);
        for (int reading = 1; reading <= 8; reading++) {
            int number = reading;
            check.due(reading, "correction " + reading, () -> x.correct(0, number % 2, 10 * number, number));
            check.due(reading + 1, "about(0, 2)", () -> x.about(0, 2));
        }
        check.refused(STATE, "correction 9", () -> x.correct(0, 0, 60, 1));
        check.refused(ARGUMENT, "wrong correction 9", () -> x.correct(0, 0, 60, 0));
        check.refused(INDEX, "correction 9 of no place", () -> x.correct(0, 2, 60, 1));
        check.due(1, "still shown", () -> x.about(0, 1));
        check.due(80, "at(0, 0, 0, -1)", () -> x.at(0, 0, 0, -1));
        check.due(70, "at(0, 1, 0, -1)", () -> x.at(0, 1, 0, -1));
        check.due(7, "at(0, 1, 1, -1)", () -> x.at(0, 1, 1, -1));
    }

    private static void restore() {
        check.promise("7 restore");
        TuneFinder x = new TuneFinder();
        check.refused(INDEX, "restore(0, 0)", () -> x.restore(0, 0));
        Tunes.shown(x, 0, 60, 62, 64);
        x.correct(0, 1, 70, 2);
        x.correct(0, 1, 71, 3);
        x.correct(0, 2, 72, 4);
        for (int reading : new int[] {-1, 4, LEAST, GREATEST}) {
            check.refused(INDEX, "restore(0, " + reading + ")", () -> x.restore(0, reading));
        }
        check.done("restore(0, 3), the last one", () -> x.restore(0, 3));
        check.due(4, "about(0, 2)", () -> x.about(0, 2));
        check.done("restore(0, 1)", () -> x.restore(0, 1));
        check.due(2, "about(0, 2)", () -> x.about(0, 2));
        check.due(70, "at(0, 1, 0, -1)", () -> x.at(0, 1, 0, -1));
        check.due(2, "at(0, 1, 1, -1)", () -> x.at(0, 1, 1, -1));
        check.due(64, "at(0, 2, 0, -1)", () -> x.at(0, 2, 0, -1));
        check.due(62, "at(0, 1, 0, 0)", () -> x.at(0, 1, 0, 0));
        check.refused(INDEX, "restore(0, 2), which is no more", () -> x.restore(0, 2));
        check.due(1, "still shown", () -> x.about(0, 1));
        Tunes.hum(x, 60, 70);
        check.due(1, "search for what is now", () -> x.search(1, 0));
        check.due(2, "correct after restore", () -> x.correct(0, 0, 5, 5));
        check.due(60, "at(0, 0, 0, 1)", () -> x.at(0, 0, 0, 1));
        check.done("restore(0, 0)", () -> x.restore(0, 0));
        check.due(62, "at(0, 1, 0, -1)", () -> x.at(0, 1, 0, -1));
        check.due(1, "at(0, 1, 1, -1)", () -> x.at(0, 1, 1, -1));
        check.due(1, "about(0, 2)", () -> x.about(0, 2));
    }

    private static void at() {
        check.promise("8 at");
        TuneFinder x = new TuneFinder();
        check.refused(INDEX, "at(0, 0, 0, -1)", () -> x.at(0, 0, 0, -1));
        Tunes.hidden(x, 0, 60, 67, 64);
        x.correct(0, 1, 50, 9);
        check.due(67, "at(0, 1, 0, 0)", () -> x.at(0, 1, 0, 0));
        check.due(50, "at(0, 1, 0, 1)", () -> x.at(0, 1, 0, 1));
        check.due(50, "at(0, 1, 0, NONE)", () -> x.at(0, 1, 0, TuneFinder.NONE));
        check.due(1, "at(0, 1, 1, 0)", () -> x.at(0, 1, 1, 0));
        check.due(9, "at(0, 1, 1, -1)", () -> x.at(0, 1, 1, -1));
        check.due(7, "at(0, 0, 2, 0)", () -> x.at(0, 0, 2, 0));
        check.due(-10, "at(0, 0, 2, 1)", () -> x.at(0, 0, 2, 1));
        check.due(-3, "at(0, 1, 2, 0)", () -> x.at(0, 1, 2, 0));
        check.due(14, "at(0, 1, 2, -1)", () -> x.at(0, 1, 2, -1));
        check.due(0, "at(0, 2, 2, 0)", () -> x.at(0, 2, 2, 0));
        check.due(0, "at(0, 2, 2, -1)", () -> x.at(0, 2, 2, -1));
        for (int what : new int[] {-1, 3, LEAST, GREATEST}) {
            check.refused(ARGUMENT, "at(0, 0, " + what + ", 0)", () -> x.at(0, 0, what, 0));
            check.refused(INDEX, "at(0, 3, " + what + ", 0)", () -> x.at(0, 3, what, 0));
            check.refused(INDEX, "at(0, 0, " + what + ", 2)", () -> x.at(0, 0, what, 2));
        }
        for (int place : new int[] {-1, 3, LEAST, GREATEST}) {
            check.refused(INDEX, "at(0, " + place + ", 0, 0)", () -> x.at(0, place, 0, 0));
        }
        for (int reading : new int[] {-2, 2, LEAST, GREATEST}) {
            check.refused(INDEX, "at(0, 0, 0, " + reading + ")", () -> x.at(0, 0, 0, reading));
        }
    }

    private static void about() {
        check.promise("9 about");
        TuneFinder x = new TuneFinder();
        check.refused(INDEX, "about(0, 9)", () -> x.about(0, 9));
        check.refused(INDEX, "about(8, 0)", () -> x.about(8, 0));
        Tunes.shown(x, 5, 60, 62, 64);
        x.correct(5, 0, 60, 1);
        check.due(3, "about(5, 0)", () -> x.about(5, 0));
        check.due(1, "about(5, 1)", () -> x.about(5, 1));
        check.due(2, "about(5, 2), one correction to the same note", () -> x.about(5, 2));
        for (int what : new int[] {-1, 3, LEAST, GREATEST}) {
            check.refused(ARGUMENT, "about(5, " + what + ")", () -> x.about(5, what));
        }
    }

    private static void contour() {
        check.promise("10 contour");
        TuneFinder x = new TuneFinder();
        check.refused(INDEX, "contour(0, 0)", () -> x.contour(0, 0));
        x.tune(0);
        check.due(-1, "contour without notes", () -> x.contour(0, 0));
        x.note(0, 60, 1);
        check.due(-1, "contour of one note", () -> x.contour(0, 0));
        x.note(0, 61, 1);
        x.note(0, 61, 1);
        x.note(0, 0, 1);
        check.due('u', "contour(0, 0)", () -> x.contour(0, 0));
        check.due('s', "contour(0, 1)", () -> x.contour(0, 1));
        check.due('d', "contour(0, 2)", () -> x.contour(0, 2));
        for (int i : new int[] {-1, 3, LEAST, GREATEST}) {
            check.due(-1, "contour(0, " + i + ")", () -> x.contour(0, i));
        }
        x.correct(0, 1, 59, 1);
        check.due('d', "contour(0, 0) now", () -> x.contour(0, 0));
        check.due('u', "contour(0, 1) now", () -> x.contour(0, 1));
    }
}
