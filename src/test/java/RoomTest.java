import com.sun.management.ThreadMXBean;
import java.lang.management.ManagementFactory;

/** No call makes an object, but for what it throws: all calls of one run live in one room. */
public final class RoomTest {
    private static final int ROUNDS = 20;
    private static final Check check = new Check();

    public static void main(String[] args) {
        ThreadMXBean threads = (ThreadMXBean) ManagementFactory.getThreadMXBean();
        TuneFinder x = new TuneFinder();
        long least = Long.MAX_VALUE;
        int sum = 0;
        for (int round = 0; round < ROUNDS; round++) {
            long before = threads.getCurrentThreadAllocatedBytes();
            sum += everyCall(x);
            long after = threads.getCurrentThreadAllocatedBytes();
            least = Math.min(least, after - before);
        }
        check.promise("room");
        check.same("true", "" + (sum != 0), "the calls answered something");
        // what asking for the number itself may cost
        check.same("true", "" + (least <= 64), "bytes made by all calls: " + least + ", at most 64");
        check.end();
    }

    /** Each call of the face, with full tunes; the object is empty again behind it. */
    private static int everyCall(TuneFinder x) {
        int sum = 0;
        for (int id = 0; id < 8; id++) {
            x.tune(id);
            for (int i = 0; i < 20; i++) {
                sum += x.note(id, 60 + i % 3, 1 + i % 2);
            }
            x.show(id, true);
            for (int reading = 1; reading < 9; reading++) {
                sum += x.correct(id, reading, 60, 1);
            }
            x.restore(id, 1);
        }
        for (int i = 0; i < 8; i++) {
            sum += x.ask(60 + i % 3, 1 + i % 2);
        }
        for (int kind = 0; kind < 6; kind++) {
            for (int k = 0; k < 5; k++) {
                int found = x.search(kind, k);
                for (int i = 0; i < found && i < 30; i++) {
                    for (int what = 0; what < 6; what++) {
                        sum += x.match(i, what);
                    }
                }
            }
        }
        for (int id = 0; id < 8; id++) {
            for (int i = 0; i < 20; i++) {
                sum += x.at(id, i, i % 3, 0) + x.contour(id, i) + x.opening(id, i) + x.repeat(id, 1, i, i % 3);
            }
            sum += x.about(id, 0) + x.repeats(id, 1) + x.canon(id, 7 - id, 2);
        }
        for (int id = 0; id < 8; id++) {
            x.drop(id);
        }
        x.forget();
        return sum;
    }
}
