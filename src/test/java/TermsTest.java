import java.util.LinkedHashMap;
import java.util.Map;
import java.util.function.Consumer;
import java.util.function.ToLongFunction;

/** "What it is" and "Terms": a test for each sentence of them. */
public final class TermsTest {
    private static final int MIN = Halls.MIN;
    private static final int MAX = Halls.MAX;

    private static final Due due = new Due();

    public static void main(String[] args) {
        atMost512Calls();
        mapsAre0And1And2();
        noOtherMapIsTouched();
        keysAndValuesAreInts();
        noTwoEntriesHaveTheSameKey();
        atFirstNone();
        map1IsInTheOrderOfComing();
        map1AKeyThatComesAgainComesLast();
        map1AChangedValueDoesNotMove();
        map2IsInTheOrderOfUse();
        map2IsUsedByNothingElse();
        map2IsNotUsedByCallsThatFindNothing();
        map2IsNotUsedByRefusedCalls();
        map2IsNotUsedByCallsOnOtherMaps();
        nothingAndNobody();
        due.end("TermsTest");
    }

    /** Each method once, on the state SMALL, with the answer that is due. */
    private static Map<ToLongFunction<HashHall>, Long> callsOnSmall() {
        Map<ToLongFunction<HashHall>, Long> calls = new LinkedHashMap<>();
        calls.put(hall -> hall.put(2, 3, 99), 32L);
        calls.put(hall -> hall.put(2, 4, 99), Due.NOTHING);
        calls.put(hall -> hall.add(1, 3, 99), 31L);
        calls.put(hall -> hall.add(1, 4, 99), Due.NOTHING);
        calls.put(hall -> hall.get(0, 3), 30L);
        calls.put(hall -> hall.give(2, 4, 7), 7L);
        calls.put(hall -> hall.remove(1, 1), 11L);
        calls.put(hall -> Due.bit(hall.take(2, 2, 22)), 1L);
        calls.put(hall -> Due.bit(hall.has(0, 1, 30)), 1L);
        calls.put(hall -> hall.size(1), 3L);
        calls.put(hall -> hall.clear(2), 3L);
        calls.put(hall -> hall.pour(1, 2), 3L);
        calls.put(hall -> hall.entry(2, 2, 0), 1L);
        calls.put(hall -> hall.sum(0), 31L * 6 + 60);
        calls.put(hall -> hall.sweep(1, 2, 1), 2L);
        calls.put(hall -> hall.raise(0, 5), 3L);
        calls.put(hall -> Due.bit(hall.same(1, 2)), 0L);
        calls.put(hall -> hall.fill(0, 5, 1, 400), 403L);
        return calls;
    }

    /** "An object is used for at most 512 calls": the 512th call is as good as the first. */
    private static void atMost512Calls() {
        int number = 0;
        for (Map.Entry<ToLongFunction<HashHall>, Long> call : callsOnSmall().entrySet()) {
            for (int last : new int[] {10, 511, 512}) {
                HashHall hall = new HashHall();
                Halls.small(hall);
                for (int done = 9; done < last - 1; done++) {
                    hall.get(1, done);
                }
                String name = "terms: method " + number + " as call " + last;
                due.is(name, call.getKey().applyAsLong(hall), call.getValue());
            }
            number++;
        }
        HashHall hall = new HashHall();
        for (int key = 1; key <= 511; key++) {
            due.is("terms: 511 keys come", hall.put(1, key, -key), Due.NOTHING);
        }
        due.is("terms: call 512 sees the first of them", hall.entry(1, 0, 1), -1);
    }

    /** "MAPS 0, 1, 2": the least and the greatest of them are there, their neighbours are not. */
    private static void mapsAre0And1And2() {
        for (int map = -1; map <= 3; map++) {
            boolean there = map >= 0 && map <= 2;
            HashHall hall = new HashHall();
            due.is("terms: put " + map, hall.put(map, 1, 5), there ? Due.NOTHING : Due.NOBODY);
            due.is("terms: add " + map, hall.add(map, 1, 6), there ? 5 : Due.NOBODY);
            due.is("terms: get " + map, hall.get(map, 1), there ? 5 : Due.NOBODY);
            due.is("terms: give " + map, hall.give(map, 2, 7), there ? 7 : Due.NOBODY);
            due.is("terms: has " + map, hall.has(map, 0, 1), there);
            due.is("terms: size " + map, hall.size(map), there ? 1 : -1);
            due.is("terms: sum " + map, hall.sum(map), there ? 36 : Due.NOBODY);
            due.is("terms: raise " + map, hall.raise(map, 1), there ? 1 : -1);
            due.is("terms: same " + map, hall.same(map, map), there);
            due.is("terms: entry " + map, hall.entry(map, 0, 0), map == 1 || map == 2 ? 1 : Due.NOBODY);
            due.is("terms: fill " + map, hall.fill(map, 2, 1, 1), there ? 2 : -1);
            due.is("terms: pour " + map, hall.pour(map, map == 0 ? 1 : 0), map == 1 || map == 2 ? 2 : -1);
            due.is("terms: sweep " + map, hall.sweep(map, 2, 0), there ? 1 : -1);
            due.is("terms: take " + map, hall.take(map, 1, 6), there);
            due.is("terms: remove " + map, hall.remove(map, 1), there ? Due.NOTHING : Due.NOBODY);
            due.is("terms: clear " + map, hall.clear(map), there ? 0 : -1);
        }
    }

    /** "told if there is no such map": and the three maps that there are stay as they were. */
    private static void noOtherMapIsTouched() {
        for (int map : Halls.NO_MAPS) {
            for (Consumer<HashHall> run : Halls.beginnings()) {
                due.idle("terms: put " + map, run, hall -> hall.put(map, 1, 5), Due.NOBODY);
                due.idle("terms: add " + map, run, hall -> hall.add(map, 9, 5), Due.NOBODY);
                due.idle("terms: get " + map, run, hall -> hall.get(map, 2), Due.NOBODY);
                due.idle("terms: give " + map, run, hall -> hall.give(map, 2, 5), Due.NOBODY);
                due.idle("terms: remove " + map, run, hall -> hall.remove(map, 1), Due.NOBODY);
                due.idle("terms: sum " + map, run, hall -> hall.sum(map), Due.NOBODY);
                due.idle("terms: entry " + map, run, hall -> hall.entry(map, 0, 0), Due.NOBODY);
            }
        }
    }

    /** "ENTRIES, each a key and a value, ints": any int may be either. */
    private static void keysAndValuesAreInts() {
        int[] edges = {MIN, MIN + 1, -1, 0, 1, MAX - 1, MAX};
        for (int map = 0; map < 3; map++) {
            for (int value : edges) {
                HashHall hall = new HashHall();
                for (int key : edges) {
                    due.is("terms: key " + key, hall.put(map, key, value), Due.NOTHING);
                }
                due.is("terms: seven keys", hall.size(map), edges.length);
                for (int key : edges) {
                    due.is("terms: value " + value, hall.get(map, key), value);
                    due.is("terms: value " + value, hall.remove(map, key), value);
                    due.is("terms: key " + key + " is gone", hall.get(map, key), Due.NOTHING);
                }
            }
        }
    }

    /** "no two of a map with the same key": another value makes no second entry. */
    private static void noTwoEntriesHaveTheSameKey() {
        for (int map = 0; map < 3; map++) {
            int to = map;
            int from = map == 1 ? 2 : 1;
            Consumer<HashHall> one = hall -> {
                hall.put(to, 5, 50);
                hall.put(from, 5, 51);
            };
            due.is("terms: put", State.ofMap(one.andThen(h -> h.put(to, 5, 51)), to), "5=51");
            due.is("terms: add", State.ofMap(one.andThen(h -> h.add(to, 5, 51)), to), "5=50");
            due.is("terms: pour", State.ofMap(one.andThen(h -> h.pour(from, to)), to), "5=51");
            due.is("terms: fill", State.ofMap(one.andThen(h -> h.fill(to, 5, 0, 3)), to), "5=2");
            due.is("terms: another key", State.ofMap(one.andThen(h -> h.put(to, 6, 50)), to), "5=50 6=50");
        }
    }

    /** "at first none". */
    private static void atFirstNone() {
        due.is("terms: a new object", State.of(Halls::empty), "0:  1:  2: ");
        due.is("terms: a small state", State.of(Halls::small), Halls.SMALL);
        for (int key : new int[] {MIN, -1, 0, 1, MAX}) {
            for (int map = 0; map < 3; map++) {
                due.is("terms: no key at first", new HashHall().has(map, 0, key), false);
                due.is("terms: no value at first", new HashHall().has(map, 1, key), false);
            }
        }
    }

    /** "Map 1: the order in which the keys came". */
    private static void map1IsInTheOrderOfComing() {
        Consumer<HashHall> run = hall -> {
            hall.put(1, 5, 50);
            hall.add(1, -7, 70);
            hall.fill(1, 3, -2, 2);
            hall.put(2, MIN, 1);
            hall.pour(2, 1);
            hall.put(1, MAX, 2);
        };
        String due1 = "5=50 -7=70 3=0 1=1 " + MIN + "=1 " + MAX + "=2";
        due.is("terms: order of coming", State.ofMap(run, 1), due1);
    }

    /** "a key that goes and comes again comes last": by each way to go and each way to come. */
    private static void map1AKeyThatComesAgainComesLast() {
        Map<String, Consumer<HashHall>> going = new LinkedHashMap<>();
        going.put("remove", hall -> hall.remove(1, 4));
        going.put("take", hall -> hall.take(1, 4, 40));
        going.put("sweep", hall -> hall.sweep(1, 4, 0));
        Map<String, Consumer<HashHall>> coming = new LinkedHashMap<>();
        coming.put("put", hall -> hall.put(1, 4, 0));
        coming.put("add", hall -> hall.add(1, 4, 0));
        coming.put("fill", hall -> hall.fill(1, 4, 1, 1));
        coming.put("pour", hall -> {
            hall.put(2, 4, 0);
            hall.pour(2, 1);
        });
        int[][] pairs = {{4, 40, 5, 50, 6, 60}, {5, 50, 4, 40, 6, 60}, {5, 50, 6, 60, 4, 40}};
        for (int[] three : pairs) {
            for (String goes : going.keySet()) {
                Consumer<HashHall> gone = Halls.with(1, three).andThen(going.get(goes));
                due.is("terms: " + goes, State.ofMap(gone, 1), "5=50 6=60");
                for (String comes : coming.keySet()) {
                    Consumer<HashHall> again = gone.andThen(coming.get(comes));
                    due.is("terms: " + goes + ", " + comes, State.ofMap(again, 1), "5=50 6=60 4=0");
                }
            }
            for (String comes : coming.keySet()) {
                Consumer<HashHall> again = Halls.with(1, three).andThen(hall -> {
                    hall.clear(1);
                    hall.put(1, 6, 60);
                }).andThen(coming.get(comes));
                due.is("terms: clear, " + comes, State.ofMap(again, 1), "6=60 4=0");
            }
        }
    }

    /** "a value that is changed does not move": nor does a use, which is map 2's alone. */
    private static void map1AChangedValueDoesNotMove() {
        String[] states = {"1=%s 2=20 3=30", "1=10 2=%s 3=30", "1=10 2=20 3=%s"};
        for (int key = 1; key <= 3; key++) {
            int one = key;
            String state = states[key - 1];
            String old = "" + 10 * key;
            Consumer<HashHall> three = Halls.with(1, new int[] {1, 10, 2, 20, 3, 30});
            stays("put", three.andThen(h -> h.put(1, one, 7)), state, "7");
            stays("put of the same", three.andThen(h -> h.put(1, one, 10 * one)), state, old);
            stays("fill", three.andThen(h -> h.fill(1, one, 0, 8)), state, "7");
            stays("pour of map 2", three.andThen(Halls.with(2, new int[] {key, 7})).andThen(h -> h.pour(2, 1)), state, "7");
            stays("pour of map 0", three.andThen(Halls.with(0, new int[] {key, 7})).andThen(h -> h.pour(0, 1)), state, "7");
            stays("add", three.andThen(h -> h.add(1, one, 7)), state, old);
            stays("get", three.andThen(h -> h.get(1, one)), state, old);
            stays("give", three.andThen(h -> h.give(1, one, 7)), state, old);
            stays("take that fails", three.andThen(h -> h.take(1, one, 7)), state, old);
        }
        Consumer<HashHall> raised = Halls.with(1, new int[] {1, 10, 2, 20, 3, 30}).andThen(h -> h.raise(1, 1));
        stays("raise", raised, "1=11 2=%s 3=31", "21");
    }

    private static void stays(String name, Consumer<HashHall> run, String state, String value) {
        due.is("terms: map 1, " + name, State.ofMap(run, 1), state.replace("%s", value));
    }

    /** "an entry is used by put, add, get, give and by coming in pour": the first, middle, last. */
    private static void map2IsInTheOrderOfUse() {
        String[] states = {"2=20 3=30 1=%s", "1=10 3=30 2=%s", "1=10 2=20 3=%s"};
        for (int key = 1; key <= 3; key++) {
            int one = key;
            String state = states[key - 1];
            String old = "" + 10 * key;
            Consumer<HashHall> three = Halls.with(2, new int[] {1, 10, 2, 20, 3, 30});
            used("put", three.andThen(h -> h.put(2, one, 7)), state, "7");
            used("put of the same", three.andThen(h -> h.put(2, one, 10 * one)), state, old);
            used("add", three.andThen(h -> h.add(2, one, 7)), state, old);
            used("get", three.andThen(h -> h.get(2, one)), state, old);
            used("give", three.andThen(h -> h.give(2, one, 7)), state, old);
            used("pour", three.andThen(Halls.with(1, new int[] {key, 7})).andThen(h -> h.pour(1, 2)), state, "7");
            used("fill", three.andThen(h -> h.fill(2, one, 0, 8)), state, "7");
        }
        Consumer<HashHall> three = Halls.with(2, new int[] {1, 10, 2, 20, 3, 30});
        String news = "1=10 2=20 3=30 4=%s";
        used("put of a new key", three.andThen(h -> h.put(2, 4, 7)), news, "7");
        used("add of a new key", three.andThen(h -> h.add(2, 4, 7)), news, "7");
        used("fill of a new key", three.andThen(h -> h.fill(2, 4, 0, 8)), news, "7");
        used("pour of a new key", three.andThen(Halls.with(1, new int[] {4, 7})).andThen(h -> h.pour(1, 2)), news, "7");
        Consumer<HashHall> allOfThem = three.andThen(Halls.with(1, new int[] {3, 7, 1, 10, 4, 7, 2, 20}));
        used("pour of all", allOfThem.andThen(h -> h.pour(1, 2)), "3=7 1=10 4=7 2=%s", "20");
    }

    private static void used(String name, Consumer<HashHall> run, String state, String value) {
        due.is("terms: map 2, " + name, State.ofMap(run, 2), state.replace("%s", value));
    }

    /** "by nothing else": each other method that has to do with an entry leaves it where it is. */
    private static void map2IsUsedByNothingElse() {
        Consumer<HashHall> small = Halls::small;
        due.idle("terms: take, another value", small, h -> Due.bit(h.take(2, 2, 23)), 0);
        due.idle("terms: has, key", small, h -> Due.bit(h.has(2, 0, 2)), 1);
        due.idle("terms: has, value", small, h -> Due.bit(h.has(2, 1, 22)), 1);
        due.idle("terms: size", small, h -> h.size(2), 3);
        due.idle("terms: entry, key", small, h -> h.entry(2, 0, 0), 2);
        due.idle("terms: entry, value", small, h -> h.entry(2, 1, 1), 32);
        due.idle("terms: sum", small, h -> h.sum(2), 31 * 6 + 66);
        due.idle("terms: sweep of none", small, h -> h.sweep(2, 5, 0), 0);
        due.idle("terms: raise", small, h -> h.raise(2, 0), 3);
        due.idle("terms: same, first", small, h -> Due.bit(h.same(2, 1)), 0);
        due.idle("terms: same, second", small, h -> Due.bit(h.same(0, 2)), 0);
        due.idle("terms: same, both", small, h -> Due.bit(h.same(2, 2)), 1);
        String start = "0: 1=10 2=20 3=30 1: 3=31 1=11 2=21 2: ";
        due.leaves("terms: remove", small, h -> h.remove(2, 3), 32, start + "2=22 1=12");
        due.leaves("terms: take", small, h -> Due.bit(h.take(2, 3, 32)), 1, start + "2=22 1=12");
        due.leaves("terms: sweep", small, h -> h.sweep(2, 3, 0), 1, start + "2=22 1=12");
        due.leaves("terms: raise", small, h -> h.raise(2, 1), 3, start + "2=23 3=33 1=13");
        String end = " 2: 2=22 3=32 1=12";
        due.leaves("terms: pour out into 0", small, h -> h.pour(2, 0), 3,
            "0: 1=12 2=22 3=32 1: 3=31 1=11 2=21" + end);
        due.leaves("terms: pour out into 1", small, h -> h.pour(2, 1), 3,
            "0: 1=10 2=20 3=30 1: 3=32 1=12 2=22" + end);
    }

    private static void map2IsNotUsedByCallsThatFindNothing() {
        Consumer<HashHall> small = Halls::small;
        due.idle("terms: get of no key", small, h -> h.get(2, 4), Due.NOTHING);
        due.idle("terms: give of no key", small, h -> h.give(2, 4, 7), 7);
        due.idle("terms: remove of no key", small, h -> h.remove(2, 4), Due.NOTHING);
        due.idle("terms: take of no key", small, h -> Due.bit(h.take(2, 4, 22)), 0);
        due.idle("terms: has, no key", small, h -> Due.bit(h.has(2, 0, 4)), 0);
        due.idle("terms: has, no value", small, h -> Due.bit(h.has(2, 1, 2)), 0);
        due.idle("terms: entry, none", small, h -> h.entry(2, 3, 0), Due.NOTHING);
        due.idle("terms: pour of none", small.andThen(h -> h.clear(1)), h -> h.pour(1, 2), 3);
    }

    private static void map2IsNotUsedByRefusedCalls() {
        Consumer<HashHall> small = Halls::small;
        due.idle("terms: pour of 0", small, h -> h.pour(0, 2), -1);
        due.idle("terms: pour into itself", small, h -> h.pour(2, 2), -1);
        due.idle("terms: has, another what", small, h -> Due.bit(h.has(2, 2, 2)), 0);
        due.idle("terms: entry, another what", small, h -> h.entry(2, 0, 2), Due.NOBODY);
        due.idle("terms: sweep, step 0", small, h -> h.sweep(2, 0, 0), -1);
        due.idle("terms: fill, n 0", small, h -> h.fill(2, 2, 1, 0), -1);
        due.idle("terms: fill, n 401", small, h -> h.fill(2, 2, 0, 401), -1);
        due.idle("terms: fill of 1001", Halls.with(2, 0, 1001), h -> h.fill(2, 0, 1, 1), -1);
        Consumer<HashHall> many = Halls.with(2, 0, 1001).andThen(Halls.with(1, 0, 400));
        due.idle("terms: pour of 1401", many, h -> h.pour(1, 2), -1);
    }

    private static void map2IsNotUsedByCallsOnOtherMaps() {
        Consumer<HashHall> small = Halls::small;
        for (int map = 0; map < 2; map++) {
            int other = map;
            Consumer<HashHall> run = small.andThen(h -> {
                h.put(other, 2, 1);
                h.add(other, 2, 2);
                h.get(other, 2);
                h.give(other, 2, 3);
                h.fill(other, 2, 0, 4);
                h.raise(other, 5);
                h.pour(1 - other, other);
                h.clear(other);
            });
            due.is("terms: calls on map " + map, State.ofMap(run, 2), "2=22 3=32 1=12");
        }
    }

    /** "NOTHING: 2^40; NOBODY: 2^40 + 1": they are told, and are no ints. */
    private static void nothingAndNobody() {
        due.is("terms: NOTHING", new HashHall().get(0, 0), 1099511627776L);
        due.is("terms: NOBODY", new HashHall().get(3, 0), 1099511627777L);
        HashHall hall = new HashHall();
        hall.put(0, 1, (int) Due.NOTHING);
        hall.put(0, 2, (int) Due.NOBODY);
        due.is("terms: the low bits of NOTHING", hall.get(0, 1), 0);
        due.is("terms: the low bits of NOBODY", hall.get(0, 2), 1);
    }
}
