/** Promises 11 to 14: the query, the kinds of search, and what they find. */
public final class SearchTest {
    private static final Class<IndexOutOfBoundsException> INDEX = IndexOutOfBoundsException.class;
    private static final Class<IllegalArgumentException> ARGUMENT = IllegalArgumentException.class;
    private static final Class<IllegalStateException> STATE = IllegalStateException.class;
    private static final int LEAST = Integer.MIN_VALUE;
    private static final int GREATEST = Integer.MAX_VALUE;

    private static final Check check = new Check();

    public static void main(String[] args) {
        ask();
        forget();
        wrongSearches();
        exact();
        melody();
        contour();
        rhythm();
        outline();
        near();
        order();
        shownOnly();
        match();
        check.end();
    }

    private static void found(TuneFinder x, int kind, int k, int count, String passages) {
        String call = "search(" + kind + ", " + k + ")";
        check.due(count, call, () -> x.search(kind, k));
        check.same(passages, Tunes.kept(x), call + " keeps");
    }

    private static void ask() {
        check.promise("11 ask");
        TuneFinder x = new TuneFinder();
        for (int pitch : new int[] {-1, 128, LEAST, GREATEST}) {
            check.refused(ARGUMENT, "ask(" + pitch + ", 1)", () -> x.ask(pitch, 1));
        }
        for (int length : new int[] {0, -1, 65, LEAST, GREATEST}) {
            check.refused(ARGUMENT, "ask(60, " + length + ")", () -> x.ask(60, length));
        }
        check.due(1, "ask(0, 1)", () -> x.ask(0, 1));
        check.due(2, "ask(127, 64)", () -> x.ask(127, 64));
        for (int count = 3; count <= 8; count++) {
            check.due(count, "ask " + count, () -> x.ask(60, 1));
        }
        check.refused(STATE, "ask 9", () -> x.ask(60, 1));
        check.refused(ARGUMENT, "wrong ask 9", () -> x.ask(60, 0));
    }

    private static void forget() {
        check.promise("12 forget");
        TuneFinder x = new TuneFinder();
        check.done("forget() without a query", x::forget);
        Tunes.shown(x, 0, 60, 62);
        Tunes.hum(x, 0, 2);
        x.search(1, 0);
        check.done("forget()", x::forget);
        check.refused(STATE, "search(1, 0) without a query", () -> x.search(1, 0));
        check.same("0,0,2,60,1/1", Tunes.kept(x), "kept after forget()");
        check.due(1, "ask(5, 1)", () -> x.ask(5, 1));
    }

    private static void wrongSearches() {
        check.promise("13 search, wrong");
        TuneFinder x = new TuneFinder();
        Tunes.shown(x, 0, 60, 62, 64);
        Tunes.hum(x, 0, 2);
        x.search(1, 0);
        String kept = Tunes.kept(x);
        for (int kind : new int[] {-1, 6, LEAST, GREATEST}) {
            check.refused(ARGUMENT, "search(" + kind + ", 0)", () -> x.search(kind, 0));
        }
        for (int k : new int[] {-1, 5, LEAST, GREATEST}) {
            for (int kind = 0; kind < 6; kind++) {
                int which = kind;
                check.refused(ARGUMENT, "search(" + kind + ", " + k + ")", () -> x.search(which, k));
            }
        }
        x.forget();
        x.ask(60, 1);
        check.refused(ARGUMENT, "search(6, 0) with one note", () -> x.search(6, 0));
        check.refused(STATE, "search(0, 0) with one note", () -> x.search(0, 0));
        check.same(kept, Tunes.kept(x), "kept after searches that threw");
    }

    private static void exact() {
        check.promise("13 exact");
        TuneFinder x = new TuneFinder();
        x.tune(2);
        int[] pitches = {60, 62, 59, 70, 72, 69, 20, 22, 19};
        int[] lengths = {2, 4, 6, 1, 2, 3, 1, 2, 4};
        for (int i = 0; i < pitches.length; i++) {
            x.note(2, pitches[i], lengths[i]);
        }
        x.show(2, true);
        x.ask(100, 10);
        x.ask(102, 20);
        x.ask(99, 30);
        found(x, 0, 0, 2, "2,0,3,-40,1/1 2,3,3,-30,1/1");
        found(x, 0, 4, 2, "2,0,3,-40,1/1 2,3,3,-30,1/1");
        found(x, 1, 0, 3, "2,0,3,-40,1/1 2,3,3,-30,1/1 2,6,3,-80,1/1");
        x.correct(2, 1, 62, 5);
        found(x, 0, 0, 1, "2,3,3,-30,1/1");
    }

    private static void melody() {
        check.promise("13 melody");
        TuneFinder x = new TuneFinder();
        Tunes.shown(x, 0, 60, 60, 60, 61);
        Tunes.shown(x, 1, 10, 11);
        Tunes.hum(x, 10, 10);
        found(x, 1, 0, 2, "0,0,2,50,1/1 0,1,2,50,1/1");
        Tunes.hum(x, 10, 10, 11);
        found(x, 1, 0, 1, "0,1,3,50,1/1");
        Tunes.hum(x, 10, 10, 10, 11, 12);
        found(x, 1, 0, 0, "");
        Tunes.hum(x, 9, 10);
        found(x, 1, 0, 2, "0,2,2,51,1/1 1,0,2,1,1/1");
    }

    private static void contour() {
        check.promise("13 contour");
        TuneFinder x = new TuneFinder();
        Tunes.shown(x, 0, 60, 90, 90, 10, 11, 11, 9);
        Tunes.hum(x, 50, 51, 51, 50);
        found(x, 2, 0, 2, "0,0,4,10,1/1 0,3,4,-40,1/1");
        Tunes.hum(x, 51, 50, 60);
        found(x, 2, 0, 1, "0,2,3,39,1/1");
    }

    private static void rhythm() {
        check.promise("13 rhythm");
        TuneFinder x = new TuneFinder();
        Tunes.rhythm(x, 0, 2, 4, 2, 1, 2, 1, 3, 6, 4);
        Tunes.clap(x, 32, 64, 32);
        found(x, 3, 0, 2, "0,0,3,0,1/1 0,3,3,0,1/1");
        Tunes.clap(x, 2, 3);
        found(x, 3, 0, 0, "");
        Tunes.clap(x, 3, 2);
        found(x, 3, 0, 1, "0,7,2,0,1/1");
        x.correct(0, 0, 0, 2);
        Tunes.clap(x, 1, 2, 1);
        found(x, 3, 0, 2, "0,0,3,-60,1/1 0,3,3,0,1/1");
    }

    private static void outline() {
        check.promise("13 outline");
        TuneFinder x = new TuneFinder();
        Tunes.shown(x, 0, 60, 99, 62, 98, 97, 64);
        Tunes.hum(x, 0, 2, 4);
        found(x, 4, 0, 0, "");
        found(x, 4, 1, 0, "");
        found(x, 4, 2, 1, "0,0,6,60,1/2");
        TuneFinder y = new TuneFinder();
        // two ways to the same end are one passage, and ends at several places are several
        Tunes.shown(y, 1, 60, 62, 62, 60, 62, 60);
        Tunes.hum(y, 10, 12, 10);
        found(y, 4, 0, 1, "1,3,3,50,1/1");
        found(y, 4, 1, 2, "1,3,3,50,1/1 1,0,4,50,3/4");
        found(y, 4, 2, 3, "1,3,3,50,1/1 1,0,4,50,3/4 1,0,6,50,1/2");
        found(y, 4, 4, 3, "1,3,3,50,1/1 1,0,4,50,3/4 1,0,6,50,1/2");
        Tunes.hum(y, 10, 10);
        found(y, 4, 3, 5, "1,1,2,52,1/1 1,2,3,52,2/3 1,3,3,50,2/3 1,0,4,50,1/2 1,1,4,52,1/2");
        found(y, 4, 4, 6, "1,1,2,52,1/1 1,2,3,52,2/3 1,3,3,50,2/3 1,0,4,50,1/2 1,1,4,52,1/2 1,0,6,50,1/3");
    }

    private static void near() {
        check.promise("13 near");
        TuneFinder x = new TuneFinder();
        Tunes.shown(x, 0, 60, 62, 63, 64, 60);
        Tunes.hum(x, 67, 69, 71, 67);
        found(x, 5, 0, 0, "");
        found(x, 5, 1, 0, "");
        found(x, 5, 2, 2, "0,0,2,-7,1/2 0,3,2,-3,1/2");
        found(x, 5, 3, 4, "0,0,2,-7,1/2 0,3,2,-3,1/2 0,1,2,-5,1/8 0,2,2,-4,1/8");
        TuneFinder y = new TuneFinder();
        // one step put in: without the first or the last note there would be two changes
        Tunes.shown(y, 3, 60, 61, 63, 72, 75, 79);
        Tunes.hum(y, 0, 1, 3, 6, 10);
        found(y, 5, 0, 0, "");
        found(y, 5, 1, 1, "3,0,6,60,5/6");
        TuneFinder z = new TuneFinder();
        // two changes by other steps leave four steps, two by taking out and putting in leave five
        Tunes.shown(z, 0, 50, 60, 80, 82, 83, 53, 48);
        Tunes.hum(z, 40, 50, 70, 71, 73, 43, 38);
        found(z, 5, 1, 0, "");
        found(z, 5, 2, 1, "0,0,7,10,36/49");
        TuneFinder w = new TuneFinder();
        Tunes.shown(w, 0, 60, 65, 65, 60);
        Tunes.hum(w, 0, 5);
        found(w, 5, 0, 1, "0,0,2,60,1/1");
        found(w, 5, 4, 3, "0,0,2,60,1/1 0,1,2,65,1/4 0,2,2,65,1/4");
    }

    private static void order() {
        check.promise("13 order");
        TuneFinder x = new TuneFinder();
        int[] same = new int[20];
        int[] stair = new int[20];
        for (int i = 0; i < 20; i++) {
            same[i] = 60;
            stair[i] = i / 2 * 5 + i % 2;
        }
        for (int id = 0; id < 8; id++) {
            Tunes.shown(x, id, same);
        }
        Tunes.hum(x, 60, 60);
        check.due(152, "search(1, 0)", () -> x.search(1, 0));
        StringBuilder first = new StringBuilder();
        for (int i = 0; i < 30; i++) {
            first.append(i / 19).append(',').append(i % 19).append(",2,0,1/1 ");
        }
        check.same(first.toString().trim(), Tunes.kept(x), "the first 30 of 152");
        TuneFinder y = new TuneFinder();
        Tunes.shown(y, 1, stair);
        Tunes.shown(y, 0, stair);
        Tunes.shown(y, 7, 60, 65);
        Tunes.hum(y, 0, 5);
        check.due(37, "search(4, 1)", () -> y.search(4, 1));
        StringBuilder best = new StringBuilder("7,0,2,60,1/1 ");
        for (int i = 0; i < 29; i++) {
            best.append(i / 18).append(',').append(i % 18).append(",3,").append(stair[i % 18]).append(",2/3 ");
        }
        check.same(best.toString().trim(), Tunes.kept(y), "the greater score first");
    }

    private static void shownOnly() {
        check.promise("13 shown, and as it is now");
        TuneFinder x = new TuneFinder();
        Tunes.hidden(x, 0, 60, 62, 64, 66);
        Tunes.shown(x, 1, 60, 62, 64);
        Tunes.hum(x, 0, 2, 4);
        for (int kind = 0; kind < 5; kind++) {
            found(x, kind, 0, 1, "1,0,3,60,1/1");
        }
        found(x, 5, 0, 1, "1,0,3,60,1/1");
        x.show(0, true);
        found(x, 1, 0, 3, "0,0,3,60,1/1 0,1,3,62,1/1 1,0,3,60,1/1");
        x.correct(1, 2, 63, 1);
        x.show(0, false);
        found(x, 1, 0, 0, "");
        x.restore(1, 0);
        found(x, 1, 0, 1, "1,0,3,60,1/1");
    }

    private static void match() {
        check.promise("14 match");
        TuneFinder x = new TuneFinder();
        check.refused(INDEX, "match(0, 9) before a search", () -> x.match(0, 9));
        x.tune(6);
        x.note(6, 10, 1);
        x.note(6, 40, 2);
        x.note(6, 90, 1);
        x.note(6, 42, 2);
        x.show(6, true);
        Tunes.hum(x, 80, 82);
        check.due(1, "search(4, 1)", () -> x.search(4, 1));
        int[] answers = {6, 1, 3, -40, 2, 3};
        x.correct(6, 1, 41, 1);
        x.forget();
        x.ask(1, 1);
        for (int what = 0; what < 6; what++) {
            int which = what;
            check.due(answers[what], "match(0, " + what + ")", () -> x.match(0, which));
        }
        for (int what : new int[] {-1, 6, LEAST, GREATEST}) {
            check.refused(ARGUMENT, "match(0, " + what + ")", () -> x.match(0, what));
            check.refused(INDEX, "match(1, " + what + ")", () -> x.match(1, what));
        }
        for (int i : new int[] {-1, 1, 30, LEAST, GREATEST}) {
            check.refused(INDEX, "match(" + i + ", 0)", () -> x.match(i, 0));
        }
        x.ask(100, 1);
        check.due(0, "search(0, 0)", () -> x.search(0, 0));
        check.refused(INDEX, "match(0, 0) when nothing was found", () -> x.match(0, 0));
    }
}
