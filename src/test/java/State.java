import java.util.function.Consumer;
import java.util.function.ToLongFunction;

/**
 * What a run of calls leaves in a hall, whole and as a text: map by map, "key=value" in the map's
 * order, those of map 0 by key. A hall is good for 512 calls, so that the run is made again on a
 * new hall whenever the looks at one have become many.
 */
final class State {
    /** A run may have 512 calls less these. */
    private static final int LOOKS_AT_ONE_HALL = 300;

    /** Map 0 tells no keys of itself: these are asked for, and the size tells if they are all. */
    private static final int LEAST_KEY = -450;
    private static final int GREATEST_KEY = 2900;
    private static final int KEYS_AT_THE_ENDS = 450;

    private final Consumer<HashHall> run;
    private HashHall hall;
    private int looks = LOOKS_AT_ONE_HALL;

    private State(Consumer<HashHall> run) {
        this.run = run;
    }

    static String of(Consumer<HashHall> run) {
        State state = new State(run);
        return "0: " + state.withoutOrder() + " 1: " + state.inOrder(1) + " 2: " + state.inOrder(2);
    }

    static String ofMap(Consumer<HashHall> run, int map) {
        State state = new State(run);
        return map == 0 ? state.withoutOrder() : state.inOrder(map);
    }

    private long look(ToLongFunction<HashHall> call) {
        if (looks == LOOKS_AT_ONE_HALL) {
            hall = new HashHall();
            run.accept(hall);
            looks = 0;
        }
        looks++;
        return call.applyAsLong(hall);
    }

    private String inOrder(int map) {
        StringBuilder told = new StringBuilder();
        long size = look(hall -> hall.size(map));
        for (int i = 0; i < size; i++) {
            int k = i;
            long key = look(hall -> hall.entry(map, k, 0));
            tell(told, key, look(hall -> hall.entry(map, k, 1)));
        }
        return told.toString();
    }

    private String withoutOrder() {
        StringBuilder told = new StringBuilder();
        long rest = look(hall -> hall.size(0));
        rest -= tellKeys(told, Integer.MIN_VALUE, Integer.MIN_VALUE + KEYS_AT_THE_ENDS);
        rest -= tellKeys(told, LEAST_KEY, GREATEST_KEY);
        rest -= tellKeys(told, Integer.MAX_VALUE - KEYS_AT_THE_ENDS, Integer.MAX_VALUE);
        if (rest != 0) {
            told.append(" and ").append(rest).append(" that are not asked for");
        }
        return told.toString();
    }

    private int tellKeys(StringBuilder told, long first, long last) {
        int found = 0;
        for (long i = first; i <= last; i++) {
            int key = (int) i;
            long value = look(hall -> hall.get(0, key));
            if (value != Due.NOTHING) {
                tell(told, key, value);
                found++;
            }
        }
        return found;
    }

    private static void tell(StringBuilder told, long key, long value) {
        told.append(told.length() == 0 ? "" : " ").append(key).append('=').append(value);
    }
}
