import java.util.function.Consumer;
import java.util.function.ToLongFunction;

/** Counts the answers of a test, prints those that are not the ones due, and ends it. */
final class Due {
    static final long NOTHING = 1099511627776L;
    static final long NOBODY = 1099511627777L;

    private int checked = 0;
    private int wrong = 0;

    void is(String call, long got, long want) {
        checked++;
        if (got != want) {
            wrong++;
            System.out.println(call + " answered " + got + ", due is " + want);
        }
    }

    void is(String call, boolean got, boolean want) {
        checked++;
        if (got != want) {
            wrong++;
            System.out.println(call + " answered " + got + ", due is " + want);
        }
    }

    void is(String call, String got, String want) {
        checked++;
        if (!got.equals(want)) {
            wrong++;
            System.out.println(call + " left " + got + ", due is " + want);
        }
    }

    /** That after a run of calls, this call answers so, and leaves all three maps as they were. */
    void idle(String name, Consumer<HashHall> run, ToLongFunction<HashHall> call, long want) {
        is(name, answer(run, call), want);
        is(name, State.of(run.andThen(call::applyAsLong)), State.of(run));
    }

    /** That after a run of calls, this call answers so, and leaves the maps as State tells them. */
    void leaves(String name, Consumer<HashHall> run, ToLongFunction<HashHall> call, long want, String state) {
        is(name, answer(run, call), want);
        is(name, State.of(run.andThen(call::applyAsLong)), state);
    }

    private static long answer(Consumer<HashHall> run, ToLongFunction<HashHall> call) {
        HashHall hall = new HashHall();
        run.accept(hall);
        return call.applyAsLong(hall);
    }

    static long bit(boolean answer) {
        return answer ? 1 : 0;
    }

    /** That a map with an order has just these keys, in this order. */
    void keys(String when, HashHall hall, int map, int... want) {
        is(when + ": size of map " + map, hall.size(map), want.length);
        for (int k = 0; k < want.length; k++) {
            is(when + ": key " + k + " of map " + map, hall.entry(map, k, 0), want[k]);
        }
        is(when + ": key behind the last of map " + map, hall.entry(map, want.length, 0), NOTHING);
    }

    /** That a map with an order has just these values, in this order. */
    void values(String when, HashHall hall, int map, int... want) {
        is(when + ": size of map " + map, hall.size(map), want.length);
        for (int k = 0; k < want.length; k++) {
            is(when + ": value " + k + " of map " + map, hall.entry(map, k, 1), want[k]);
        }
    }

    void end(String test) {
        System.out.println(test + ": " + checked + " answers looked at, " + wrong + " wrong");
        if (wrong != 0 || checked == 0) {
            System.exit(1);
        }
    }
}
