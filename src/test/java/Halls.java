import java.util.List;
import java.util.function.Consumer;

/** Runs of calls that bring a new hall into a state to begin a test with. */
final class Halls {
    static final int MIN = Integer.MIN_VALUE;
    static final int MAX = Integer.MAX_VALUE;

    /** The nearest numbers below and above those of the maps, and the farthest. */
    static final int[] NO_MAPS = {-1, 3, MIN, MAX};

    /** A small state, as State tells it, in which no two maps have the same values or order. */
    static final String SMALL = "0: 1=10 2=20 3=30 1: 3=31 1=11 2=21 2: 2=22 3=32 1=12";

    private Halls() {
    }

    /** States that a call which is refused must leave as they are. */
    static List<Consumer<HashHall>> beginnings() {
        return List.of(Halls::empty, Halls::small);
    }

    static void empty(HashHall hall) {
    }

    /** Brings the state SMALL. */
    static void small(HashHall hall) {
        for (int key : new int[] {1, 2, 3}) {
            hall.put(0, key, 10 * key);
        }
        for (int key : new int[] {3, 1, 2}) {
            hall.put(1, key, 10 * key + 1);
        }
        for (int key : new int[] {2, 3, 1}) {
            hall.put(2, key, 10 * key + 2);
        }
    }

    /** Keys first, first + 1, .. in few calls: fills up to 1400, as a fill needs 1000 or fewer. */
    static void bring(HashHall hall, int map, int first, int n) {
        int done = 0;
        while (done < Math.min(n, 1000)) {
            int part = Math.min(400, Math.min(n, 1000) - done);
            hall.fill(map, first + done, 1, part);
            done += part;
        }
        if (n > done) {
            int part = Math.min(400, n - done);
            hall.fill(map, first + done, 1, part);
            done += part;
        }
        for (; done < n; done++) {
            hall.put(map, first + done, done);
        }
    }

    static Consumer<HashHall> with(int map, int first, int n) {
        return hall -> bring(hall, map, first, n);
    }

    /** A map with these entries: key, value, key, value, .. */
    static Consumer<HashHall> with(int map, int[] pairs) {
        return hall -> {
            for (int i = 0; i < pairs.length; i += 2) {
                hall.put(map, pairs[i], pairs[i + 1]);
            }
        };
    }
}
