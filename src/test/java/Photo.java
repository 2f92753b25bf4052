import java.util.Map;
import java.util.TreeMap;
import java.util.function.Supplier;

/**
 * All that can be seen of a house. An object is used for at most 512 calls, too few for one with many
 * hosts and services: so the house is made anew for each part of the picture.
 */
final class Photo {
    private static final int HOSTS = 12;
    private static final int SERVICES = 32;

    private final Map<String, Integer> seen = new TreeMap<>();

    private Photo(Supplier<WhoIsThere> made) {
        countsAndHosts(made.get());
        services(made.get());
        for (int h = 0; h < HOSTS; h++) {
            if (made.get().look(h, 5) > 0) {
                recordsOf(made.get(), h);
            }
        }
    }

    private void countsAndHosts(WhoIsThere x) {
        for (int what = 0; what <= 10; what++) {
            seen.put("count " + what, x.count(what));
        }
        for (int net = 0; net <= 3; net++) {
            seen.put("twice " + net, x.twice(net));
        }
        for (int h = 0; h < HOSTS; h++) {
            for (int what = 0; what <= 8; what++) {
                seen.put("look " + h + " " + what, x.look(h, what));
            }
        }
    }

    private void services(WhoIsThere x) {
        for (int s = 0; s < SERVICES; s++) {
            for (int what = 0; what <= 7; what++) {
                seen.put("service " + s + " " + what, x.service(s, what));
            }
        }
    }

    private void recordsOf(WhoIsThere x, int h) {
        for (int s = 0; s < SERVICES; s++) {
            for (int what = 0; what <= 3; what++) {
                seen.put("record " + h + " " + s + " " + what, x.record(h, s, what));
            }
        }
    }

    /** Whether two houses look the same; what does not is printed. */
    static void same(Check check, String what, Supplier<WhoIsThere> house, Supplier<WhoIsThere> twin) {
        Map<String, Integer> got = new Photo(house).seen;
        Map<String, Integer> want = new Photo(twin).seen;
        check.due(what + ": as many things seen", got.size(), want.size());
        want.forEach((thing, due) -> check.due(what + ": " + thing, got.getOrDefault(thing, Integer.MIN_VALUE), due));
    }
}
