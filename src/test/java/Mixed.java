/**
 * A catalogue with a tune of every sort, for the tests of refused calls, and what the document's
 * sentences ask of it: full and shown, shown, plain, of one note, not there, empty, full, corrected.
 */
final class Mixed {
    static final int ABSENT = 4;

    private static final int[] NOTES = {20, 5, 3, 1, 0, 0, 20, 4};
    private static final int[] READINGS = {9, 1, 1, 1, 0, 1, 1, 2};

    private Mixed() {
    }

    static TuneFinder catalogue() {
        TuneFinder x = new TuneFinder();
        for (int id = 0; id < NOTES.length; id++) {
            if (there(id)) {
                fill(x, id);
            }
        }
        return x;
    }

    private static void fill(TuneFinder x, int id) {
        x.tune(id);
        for (int place = 0; place < NOTES[id]; place++) {
            x.note(id, 50 + id + place * place % 5, 1 + place % 3);
        }
        if (shown(id)) {
            x.show(id, true);
        }
        for (int reading = 1; reading < READINGS[id]; reading++) {
            x.correct(id, reading * 2 % NOTES[id], 60 + reading, 10 + reading);
        }
    }

    static boolean there(int id) {
        return id >= 0 && id <= 7 && id != ABSENT;
    }

    static boolean shown(int id) {
        return id == 0 || id == 1;
    }

    static int notes(int id) {
        return NOTES[id];
    }

    static int readings(int id) {
        return READINGS[id];
    }

    static boolean hasPlace(int id, int place) {
        return place >= 0 && place < NOTES[id];
    }

    static boolean hasReading(int id, int reading) {
        return reading >= 0 && reading < READINGS[id];
    }
}
