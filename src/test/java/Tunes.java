/** Short ways to fill a catalogue, for the tests. */
final class Tunes {
    private Tunes() {
    }

    /** A shown tune of notes of length 1. */
    static void shown(TuneFinder x, int id, int... pitches) {
        hidden(x, id, pitches);
        x.show(id, true);
    }

    /** A tune of notes of length 1 that is not shown. */
    static void hidden(TuneFinder x, int id, int... pitches) {
        x.tune(id);
        for (int pitch : pitches) {
            x.note(id, pitch, 1);
        }
    }

    /** A shown tune of notes of pitch 60. */
    static void rhythm(TuneFinder x, int id, int... lengths) {
        x.tune(id);
        for (int length : lengths) {
            x.note(id, 60, length);
        }
        x.show(id, true);
    }

    /** The query, of notes of length 1. */
    static void hum(TuneFinder x, int... pitches) {
        x.forget();
        for (int pitch : pitches) {
            x.ask(pitch, 1);
        }
    }

    /** The query, of notes of pitch 60. */
    static void clap(TuneFinder x, int... lengths) {
        x.forget();
        for (int length : lengths) {
            x.ask(60, length);
        }
    }

    /** The passages kept, each as tune,place,span,higher,upper/lower. */
    static String kept(TuneFinder x) {
        StringBuilder all = new StringBuilder();
        for (int i = 0; i < 40; i++) {
            int at = i;
            String id = Check.outcome(() -> x.match(at, 0));
            if (id.equals("IndexOutOfBoundsException")) {
                return all.toString().trim();
            }
            all.append(id).append(',').append(x.match(i, 1)).append(',').append(x.match(i, 2)).append(',')
                    .append(x.match(i, 3)).append(',').append(x.match(i, 4)).append('/').append(x.match(i, 5))
                    .append(' ');
        }
        return all.append("and more").toString();
    }

    /** The repeats of a tune, each as first,steps,places. */
    static String repeats(TuneFinder x, int id, int least) {
        StringBuilder all = new StringBuilder();
        for (int i = 0; i < x.repeats(id, least); i++) {
            all.append(x.repeat(id, least, i, 0)).append(',').append(x.repeat(id, least, i, 1)).append(',')
                    .append(x.repeat(id, least, i, 2)).append(' ');
        }
        return all.toString().trim();
    }
}
