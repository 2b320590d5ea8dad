import java.util.Random;

/**
 * Runs of calls, right and wrong ones, on TuneFinder and on PlainFinder: all answers must be the
 * same, so that a call that throws is also seen to change nothing. The seeds are fixed.
 */
public final class OracleTest {
    private static final int RUNS = 1500;
    private static final int CALLS = 512;
    private static final int[] ODD = {-2, -1, 8, 20, 21, 65, 128, Integer.MIN_VALUE, Integer.MAX_VALUE};

    private static final Check check = new Check();

    private final Random random;
    private final TuneFinder real = new TuneFinder();
    private final PlainFinder plain = new PlainFinder();
    private final int tunes;
    private final int pitches;
    private final int lengths;
    private int calls;

    private OracleTest(int seed) {
        random = new Random(seed);
        tunes = 1 + random.nextInt(8);
        // few pitches and lengths make repeats, canons and ties; many make the plain cases
        pitches = 2 + random.nextInt(seed % 4 == 0 ? 126 : 5);
        lengths = 1 + random.nextInt(seed % 5 == 0 ? 63 : 4);
    }

    public static void main(String[] args) {
        for (int seed = 0; seed < RUNS; seed++) {
            check.promise("seed " + seed);
            new OracleTest(seed).run();
        }
        check.end();
    }

    private void run() {
        fill();
        while (calls < CALLS) {
            step();
        }
    }

    private void fill() {
        for (int id = 0; id < tunes; id++) {
            int tune = id;
            deed("tune " + id, () -> real.tune(tune), () -> plain.tune(tune));
            int count = random.nextInt(21);
            for (int i = 0; i < count; i++) {
                note(id);
            }
            boolean on = random.nextInt(6) > 0;
            deed("show " + id, () -> real.show(tune, on), () -> plain.show(tune, on));
        }
    }

    private void step() {
        int id = odd(random.nextInt(tunes));
        switch (random.nextInt(16)) {
            case 0:
                deed("tune " + id, () -> real.tune(id), () -> plain.tune(id));
                break;
            case 1:
                if (random.nextInt(4) == 0) {
                    deed("drop " + id, () -> real.drop(id), () -> plain.drop(id));
                }
                break;
            case 2:
                note(id);
                break;
            case 3:
                boolean on = random.nextInt(3) > 0;
                deed("show " + id + " " + on, () -> real.show(id, on), () -> plain.show(id, on));
                break;
            case 4:
                correct(id);
                break;
            case 5:
                int reading = odd(random.nextInt(4));
                deed("restore " + id + " " + reading, () -> real.restore(id, reading),
                        () -> plain.restore(id, reading));
                break;
            case 6:
                at(id);
                break;
            case 7:
                aboutAndContour(id);
                break;
            case 8:
                repeats(id);
                break;
            case 9:
                int other = odd(random.nextInt(tunes));
                int n = odd(2 + random.nextInt(random.nextBoolean() ? 3 : 19));
                call("canon " + id + " " + other + " " + n, () -> real.canon(id, other, n),
                        () -> plain.canon(id, other, n));
                break;
            case 10:
                int i = odd(random.nextInt(8));
                call("opening " + id + " " + i, () -> real.opening(id, i), () -> plain.opening(id, i));
                break;
            case 11:
                if (random.nextInt(2) == 0) {
                    deed("forget", real::forget, plain::forget);
                }
                break;
            case 12:
                ask();
                break;
            case 13:
                matches(1 + random.nextInt(3));
                break;
            default:
                search();
                break;
        }
    }

    private void note(int id) {
        int pitch = odd(random.nextInt(pitches));
        int length = odd(1 + random.nextInt(lengths));
        call("note " + id + " " + pitch + " " + length, () -> real.note(id, pitch, length),
                () -> plain.note(id, pitch, length));
    }

    private void correct(int id) {
        int place = odd(random.nextInt(20));
        int pitch = odd(random.nextInt(pitches));
        int length = odd(1 + random.nextInt(lengths));
        call("correct " + id + " " + place + " " + pitch + " " + length,
                () -> real.correct(id, place, pitch, length), () -> plain.correct(id, place, pitch, length));
    }

    private void at(int id) {
        int place = odd(random.nextInt(20));
        int what = odd(random.nextInt(3));
        int reading = odd(random.nextInt(5) - 1);
        call("at " + id + " " + place + " " + what + " " + reading, () -> real.at(id, place, what, reading),
                () -> plain.at(id, place, what, reading));
    }

    private void aboutAndContour(int id) {
        int what = odd(random.nextInt(3));
        call("about " + id + " " + what, () -> real.about(id, what), () -> plain.about(id, what));
        int i = odd(random.nextInt(20));
        call("contour " + id + " " + i, () -> real.contour(id, i), () -> plain.contour(id, i));
    }

    private void repeats(int id) {
        int least = odd(1 + random.nextInt(random.nextBoolean() ? 2 : 19));
        call("repeats " + id + " " + least, () -> real.repeats(id, least), () -> plain.repeats(id, least));
        for (int times = 0; times < 4; times++) {
            int i = odd(random.nextInt(10));
            int what = odd(random.nextInt(3));
            call("repeat " + id + " " + least + " " + i + " " + what, () -> real.repeat(id, least, i, what),
                    () -> plain.repeat(id, least, i, what));
        }
    }

    private void ask() {
        int count = 1 + random.nextInt(4);
        for (int i = 0; i < count; i++) {
            int pitch = odd(random.nextInt(pitches));
            int length = odd(1 + random.nextInt(lengths));
            call("ask " + pitch + " " + length, () -> real.ask(pitch, length), () -> plain.ask(pitch, length));
        }
    }

    private void search() {
        int kind = odd(random.nextInt(4) == 0 ? random.nextInt(4) : 4 + random.nextInt(2));
        int k = odd(random.nextInt(5));
        call("search " + kind + " " + k, () -> real.search(kind, k), () -> plain.search(kind, k));
        matches(4);
    }

    private void matches(int times) {
        for (int time = 0; time < times; time++) {
            int i = odd(random.nextInt(random.nextBoolean() ? 3 : 31));
            for (int what = 0; what < 6; what++) {
                int which = odd(what);
                call("match " + i + " " + which, () -> real.match(i, which), () -> plain.match(i, which));
            }
        }
    }

    /** Now and then another number than the one meant. */
    private int odd(int number) {
        return random.nextInt(40) == 0 ? ODD[random.nextInt(ODD.length)] : number;
    }

    private void call(String name, Check.Call got, Check.Call want) {
        if (calls < CALLS) {
            calls++;
            check.same(Check.outcome(want), Check.outcome(got), "call " + calls + ", " + name);
        }
    }

    private void deed(String name, Check.Deed got, Check.Deed want) {
        if (calls < CALLS) {
            calls++;
            check.same(Check.outcome(want), Check.outcome(got), "call " + calls + ", " + name);
        }
    }
}
