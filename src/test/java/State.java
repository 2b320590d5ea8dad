import java.util.function.Supplier;

/**
 * All that calls can tell of an object, as a text. An object is good for 512 calls, and some of
 * these calls change it: each part is told by an object of its own, made in the same way.
 */
final class State {
    private State() {
    }

    static String of(Supplier<TuneFinder> made) {
        StringBuilder all = new StringBuilder();
        for (int id = 0; id < 8; id++) {
            all.append("\ntune ").append(id).append(':');
            abouts(all, made.get(), id);
            for (int what = 0; what < 3; what++) {
                notes(all, made.get(), id, what);
            }
            rows(all, made.get(), id);
        }
        all.append("\nkept: ").append(Tunes.kept(made.get()));
        all.append("\nasked: ").append(Check.outcome(() -> made.get().ask(1, 1)));
        for (int kind = 0; kind < 6; kind++) {
            all.append("\nkind ").append(kind).append(':');
            search(all, made.get(), kind, kind < 4 ? 0 : 2);
        }
        return all.toString();
    }

    private static void tell(StringBuilder all, Check.Call call) {
        all.append(' ').append(Check.outcome(call));
    }

    private static void abouts(StringBuilder all, TuneFinder x, int id) {
        for (int what = 0; what < 3; what++) {
            int which = what;
            tell(all, () -> x.about(id, which));
        }
    }

    private static void notes(StringBuilder all, TuneFinder x, int id, int what) {
        for (int reading = -1; reading < 9; reading++) {
            for (int place = 0; place < 20; place++) {
                int from = reading;
                int at = place;
                tell(all, () -> x.at(id, at, what, from));
            }
        }
    }

    private static void rows(StringBuilder all, TuneFinder x, int id) {
        for (int i = 0; i < 20; i++) {
            int at = i;
            tell(all, () -> x.contour(id, at));
            tell(all, () -> x.opening(id, at));
            tell(all, () -> x.repeat(id, 1, at, 2));
            tell(all, () -> x.canon(id, at % 8, 2));
        }
        tell(all, () -> x.repeats(id, 1));
    }

    private static void search(StringBuilder all, TuneFinder x, int kind, int k) {
        tell(all, () -> x.search(kind, k));
        all.append(": ").append(Tunes.kept(x));
    }
}
