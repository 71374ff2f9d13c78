import java.util.function.Consumer;

/** Promises 9, 10, 12, 13, 15, 16: a test for each sentence that names an edge. */
public final class MapEdgesTest {
    private static final int MIN = Halls.MIN;
    private static final int MAX = Halls.MAX;

    private static final Due due = new Due();

    public static void main(String[] args) {
        sizeFromNoneToMany();
        sizeOfNoMap();
        clearTellsHowManyThereWere();
        clearThenComeAgain();
        clearOfOneMapAlone();
        clearOfNoMap();
        entryFromTheFirstToTheLast();
        entryThatIsNotThere();
        entryOfMap0();
        entryOfNoMap();
        entryAnotherWhat();
        sumOfNone();
        sumIsIn64Bits();
        sumOfEachEntryAlone();
        sumOfNoMap();
        raiseTellsHowMany();
        raiseWraps();
        raiseOfNoMap();
        sameEntries();
        sameIsNotByOrder();
        sameOfNoMap();
        due.end("MapEdgesTest");
    }

    /** 9: "How many entries a map has". */
    private static void sizeFromNoneToMany() {
        for (int map = 0; map < 3; map++) {
            int one = map;
            for (int n : new int[] {0, 1, 2, 999, 1000, 1001, 1399, 1400, 1401, 1800}) {
                HashHall hall = new HashHall();
                Halls.bring(hall, map, 0, n);
                due.is("9: size", hall.size(map), n);
                due.is("9: size of another map", hall.size((map + 1) % 3), 0);
                hall.remove(map, 0);
                due.is("9: one fewer", hall.size(map), Math.max(0, n - 1));
            }
            due.idle("9: size", Halls::small, h -> h.size(one), 3);
        }
    }

    /** 9: "-1 if there is none": no map, that is; a map without entries has 0. */
    private static void sizeOfNoMap() {
        for (Consumer<HashHall> run : Halls.beginnings()) {
            for (int map : Halls.NO_MAPS) {
                due.idle("9: map " + map, run, h -> h.size(map), -1);
            }
        }
    }

    /** 10: "All entries of a map go: how many there were". */
    private static void clearTellsHowManyThereWere() {
        for (int map = 0; map < 3; map++) {
            int one = map;
            due.idle("10: of none", Halls::empty, h -> h.clear(one), 0);
            for (int n : new int[] {1, 2, 1400, 1401, 1800}) {
                HashHall hall = new HashHall();
                Halls.bring(hall, map, 0, n);
                due.is("10: clear", hall.clear(map), n);
                due.is("10: size then", hall.size(map), 0);
                due.is("10: sum then", hall.sum(map), 0);
                due.is("10: the first has gone", hall.has(map, 0, 0), false);
                due.is("10: the last has gone", hall.has(map, 0, n - 1), false);
                due.is("10: clear again", hall.clear(map), 0);
                due.is("10: the last comes again", hall.put(map, n - 1, 5), Due.NOTHING);
                due.is("10: one is there then", hall.clear(map), 1);
            }
        }
    }

    /** 10: a map that was cleared is as a new one, whatever had come and gone before. */
    private static void clearThenComeAgain() {
        for (int map = 0; map < 3; map++) {
            int one = map;
            for (int n : new int[] {1, 3, 15, 16, 1000, 1400}) {
                Consumer<HashHall> cleared = Halls.with(map, 0, n).andThen(h -> h.clear(one));
                Consumer<HashHall> swept = Halls.with(map, 0, n).andThen(h -> {
                    h.sweep(one, 2, 0);
                    h.clear(one);
                });
                for (int again : new int[] {1, 2, n, 1400}) {
                    Consumer<HashHall> anew = Halls.with(map, 100, again);
                    due.is("10: " + n + ", " + again, State.ofMap(cleared.andThen(anew), map), State.ofMap(anew, map));
                    due.is("10: " + n + ", swept, " + again, State.ofMap(swept.andThen(anew), map), State.ofMap(anew, map));
                }
            }
        }
    }

    private static void clearOfOneMapAlone() {
        String[] left = {
            "0:  1: 3=31 1=11 2=21 2: 2=22 3=32 1=12",
            "0: 1=10 2=20 3=30 1:  2: 2=22 3=32 1=12",
            "0: 1=10 2=20 3=30 1: 3=31 1=11 2=21 2: ",
        };
        for (int map = 0; map < 3; map++) {
            int one = map;
            due.leaves("10: map " + map, Halls::small, h -> h.clear(one), 3, left[map]);
        }
    }

    /** 10: "-1 if there is no such map". */
    private static void clearOfNoMap() {
        for (Consumer<HashHall> run : Halls.beginnings()) {
            for (int map : Halls.NO_MAPS) {
                due.idle("10: map " + map, run, h -> h.clear(map), -1);
            }
        }
    }

    /** 12: "Of entry k, from 0, of map 1 or 2, in its order, what 0: the key, 1: the value". */
    private static void entryFromTheFirstToTheLast() {
        for (int map = 1; map < 3; map++) {
            for (int n : new int[] {1, 2, 1400, 1401}) {
                HashHall hall = new HashHall();
                Halls.bring(hall, map, 7, n - 1);
                hall.put(map, MIN, MAX);
                due.is("12: the first key", hall.entry(map, 0, 0), n == 1 ? MIN : 7);
                due.is("12: the first value", hall.entry(map, 0, 1), n == 1 ? MAX : 0);
                due.is("12: the last key", hall.entry(map, n - 1, 0), MIN);
                due.is("12: the last value", hall.entry(map, n - 1, 1), MAX);
                due.is("12: behind the last", hall.entry(map, n, 0), Due.NOTHING);
                due.is("12: behind the last", hall.entry(map, n, 1), Due.NOTHING);
            }
        }
        int[] dueOf1 = {3, 1, 2};
        int[] dueOf2 = {2, 3, 1};
        for (int i = 0; i < 3; i++) {
            int k = i;
            due.idle("12: key of map 1", Halls::small, h -> h.entry(1, k, 0), dueOf1[k]);
            due.idle("12: value of map 1", Halls::small, h -> h.entry(1, k, 1), 10 * dueOf1[k] + 1);
            due.idle("12: key of map 2", Halls::small, h -> h.entry(2, k, 0), dueOf2[k]);
            due.idle("12: value of map 2", Halls::small, h -> h.entry(2, k, 1), 10 * dueOf2[k] + 2);
        }
    }

    /** 12: "NOTHING if there is none": before the first, behind the last, and of no entries. */
    private static void entryThatIsNotThere() {
        for (int map = 1; map < 3; map++) {
            int one = map;
            for (int what = 0; what < 2; what++) {
                int kind = what;
                for (int k : new int[] {MIN, -1, 0, 1, MAX}) {
                    due.idle("12: of none, k " + k, Halls::empty, h -> h.entry(one, k, kind), Due.NOTHING);
                }
                for (int k : new int[] {MIN, -3, -1, 3, 4, MAX}) {
                    due.idle("12: of three, k " + k, Halls::small, h -> h.entry(one, k, kind), Due.NOTHING);
                }
                Consumer<HashHall> gone = h -> {
                    Halls.small(h);
                    h.remove(one, 2);
                };
                due.idle("12: one has gone", gone, h -> h.entry(one, 2, kind), Due.NOTHING);
                Consumer<HashHall> cleared = h -> {
                    Halls.small(h);
                    h.clear(one);
                };
                due.idle("12: all have gone", cleared, h -> h.entry(one, 0, kind), Due.NOTHING);
            }
        }
    }

    /** 12: "NOBODY for map 0": whether it has such an entry or not. */
    private static void entryOfMap0() {
        for (Consumer<HashHall> run : Halls.beginnings()) {
            for (int k : new int[] {MIN, -1, 0, 1, 2, 3, MAX}) {
                for (int what = -1; what <= 2; what++) {
                    int kind = what;
                    due.idle("12: map 0, k " + k, run, h -> h.entry(0, k, kind), Due.NOBODY);
                }
            }
        }
    }

    /** 12: "others": other maps. */
    private static void entryOfNoMap() {
        for (int map : Halls.NO_MAPS) {
            for (int k : new int[] {-1, 0, 3}) {
                for (int what = -1; what <= 2; what++) {
                    int kind = what;
                    due.idle("12: map " + map, Halls::small, h -> h.entry(map, k, kind), Due.NOBODY);
                }
            }
        }
    }

    /** 12: "another what": NOBODY, whether there is such an entry or not. */
    private static void entryAnotherWhat() {
        for (int map = 1; map < 3; map++) {
            int one = map;
            for (int what : new int[] {MIN, -1, 2, MAX}) {
                due.idle("12: of none, what " + what, Halls::empty, h -> h.entry(one, 0, what), Due.NOBODY);
                for (int k : new int[] {-1, 0, 2, 3}) {
                    due.idle("12: what " + what, Halls::small, h -> h.entry(one, k, what), Due.NOBODY);
                }
            }
        }
    }

    /** 13: the sum of none is 0, of a map that never had an entry and of one that has no more. */
    private static void sumOfNone() {
        for (int map = 0; map < 3; map++) {
            int one = map;
            due.idle("13: of none", Halls::empty, h -> h.sum(one), 0);
            Consumer<HashHall> gone = Halls.with(map, new int[] {5, 50}).andThen(h -> h.remove(one, 5));
            due.idle("13: of none any more", gone, h -> h.sum(one), 0);
        }
    }

    /** 13: "(64 bits)": neither key times 31, nor plus value, nor the sum of all wraps at 2^31. */
    private static void sumIsIn64Bits() {
        long[][] sums = {
            {69273666, 0, 2147483646L}, {69273666, 1, 2147483647L}, {69273666, 2, 2147483648L},
            {69273667, 0, 2147483677L}, {69273667, -30, 2147483647L}, {69273667, -29, 2147483648L},
            {-69273666, -2, -2147483648L}, {-69273666, -3, -2147483649L}, {-69273667, 0, -2147483677L},
            {0, MAX, 2147483647L}, {1, MAX - 31, 2147483647L}, {1, MAX - 30, 2147483648L},
            {0, MIN, -2147483648L}, {-1, MIN + 31, -2147483648L}, {-1, MIN + 30, -2147483649L},
            {MAX, MAX, 68719476704L}, {MIN, MIN, -68719476736L},
            {MAX, MIN, 64424509409L}, {MIN, MAX, -64424509441L},
        };
        for (int map = 0; map < 3; map++) {
            int one = map;
            for (long[] sum : sums) {
                Consumer<HashHall> run = Halls.with(map, new int[] {(int) sum[0], (int) sum[1]});
                due.idle("13: of " + sum[0] + "=" + sum[1], run, h -> h.sum(one), sum[2]);
            }
            Consumer<HashHall> two = Halls.with(map, new int[] {0, MAX, 1, MAX});
            due.idle("13: of two of the greatest", two, h -> h.sum(one), 4294967325L);
            two = Halls.with(map, new int[] {0, MIN, -1, MIN});
            due.idle("13: of two of the least", two, h -> h.sum(one), -4294967327L);
            HashHall hall = new HashHall();
            hall.fill(map, MAX, -1, 400);
            due.is("13: of many of the greatest", hall.sum(map), 31L * (400L * MAX - 79800) + 79800);
        }
    }

    /** 13: "The sum of all (key times 31) + value of a map, each entry alone". */
    private static void sumOfEachEntryAlone() {
        for (int map = 0; map < 3; map++) {
            int one = map;
            due.idle("13: of three", Halls::small, h -> h.sum(one), 31 * 6 + 60 + 3 * one);
            Consumer<HashHall> zero = Halls.with(map, new int[] {1, -31, 2, -62});
            due.idle("13: of entries that make 0", zero, h -> h.sum(one), 0);
            for (int n : new int[] {1, 2, 400}) {
                due.idle("13: of many", Halls.with(map, 0, n), h -> h.sum(one), 32L * n * (n - 1) / 2);
            }
        }
    }

    /** 13: "NOBODY." */
    private static void sumOfNoMap() {
        for (Consumer<HashHall> run : Halls.beginnings()) {
            for (int map : Halls.NO_MAPS) {
                due.idle("13: map " + map, run, h -> h.sum(map), Due.NOBODY);
            }
        }
    }

    /** 15: "All entries of a map get their value plus by: how many". */
    private static void raiseTellsHowMany() {
        for (int map = 0; map < 3; map++) {
            int one = map;
            due.idle("15: of none", Halls::empty, h -> h.raise(one, 5), 0);
            due.idle("15: by 0", Halls::small, h -> h.raise(one, 0), 3);
            for (int n : new int[] {1, 2, 1400, 1401}) {
                HashHall hall = new HashHall();
                Halls.bring(hall, map, 0, n);
                long sum = hall.sum(map);
                due.is("15: by 1", hall.raise(map, 1), n);
                due.is("15: each gets it", hall.sum(map), sum + n);
                due.is("15: by -1", hall.raise(map, -1), n);
                due.is("15: and back", hall.sum(map), sum);
            }
        }
        String map0 = "0: 1=15 2=25 3=35 1: 3=31 1=11 2=21 2: 2=22 3=32 1=12";
        String map1 = "0: 1=10 2=20 3=30 1: 3=36 1=16 2=26 2: 2=22 3=32 1=12";
        String map2 = "0: 1=10 2=20 3=30 1: 3=31 1=11 2=21 2: 2=27 3=37 1=17";
        due.leaves("15: map 0 alone", Halls::small, h -> h.raise(0, 5), 3, map0);
        due.leaves("15: map 1 alone", Halls::small, h -> h.raise(1, 5), 3, map1);
        due.leaves("15: map 2 alone", Halls::small, h -> h.raise(2, 5), 3, map2);
    }

    /** 15: "(wrapping)": at the greatest and at the least value. */
    private static void raiseWraps() {
        int[][] raises = {
            {MAX - 1, 1, MAX}, {MAX, 1, MIN}, {MAX, 2, MIN + 1},
            {MIN + 1, -1, MIN}, {MIN, -1, MAX}, {MIN, -2, MAX - 1},
            {MAX, MAX, -2}, {MIN, MIN, 0}, {MAX, MIN, -1}, {MIN, MAX, -1},
            {0, MAX, MAX}, {1, MAX, MIN}, {0, MIN, MIN}, {-1, MIN, MAX},
        };
        for (int map = 0; map < 3; map++) {
            for (int[] raise : raises) {
                HashHall hall = new HashHall();
                hall.put(map, 5, raise[0]);
                String name = "15: " + raise[0] + " by " + raise[1];
                due.is(name, hall.raise(map, raise[1]), 1);
                due.is(name, hall.get(map, 5), raise[2]);
            }
        }
    }

    /** 15: "-1 if there is no such map". */
    private static void raiseOfNoMap() {
        for (Consumer<HashHall> run : Halls.beginnings()) {
            for (int map : Halls.NO_MAPS) {
                due.idle("15: map " + map, run, h -> h.raise(map, 5), -1);
            }
        }
    }

    /** 16: "Whether two maps have the same entries". */
    private static void sameEntries() {
        for (int one = 0; one < 3; one++) {
            for (int two = 0; two < 3; two++) {
                if (one == two) {
                    same("16: a map and itself", Halls::empty, one, two, true);
                    same("16: a map and itself", Halls::small, one, two, true);
                    continue;
                }
                Consumer<HashHall> run = Halls.with(one, new int[] {5, 50, 6, 60});
                same("16: none and none", Halls::empty, one, two, true);
                same("16: two and none", run, one, two, false);
                same("16: the same two", run.andThen(Halls.with(two, new int[] {5, 50, 6, 60})), one, two, true);
                same("16: one fewer", run.andThen(Halls.with(two, new int[] {5, 50})), one, two, false);
                same("16: one more", run.andThen(Halls.with(two, new int[] {5, 50, 6, 60, 7, 70})), one, two, false);
                same("16: a value less", run.andThen(Halls.with(two, new int[] {5, 50, 6, 59})), one, two, false);
                same("16: a value more", run.andThen(Halls.with(two, new int[] {5, 51, 6, 60})), one, two, false);
                same("16: another key", run.andThen(Halls.with(two, new int[] {5, 50, 7, 60})), one, two, false);
                same("16: values changed round", run.andThen(Halls.with(two, new int[] {5, 60, 6, 50})), one, two, false);
                same("16: value 0 and no key", Halls.with(one, new int[] {5, 0}).andThen(Halls.with(two, new int[] {6, 0})), one, two, false);
                same("16: the same sum", Halls.with(one, new int[] {1, 0}).andThen(Halls.with(two, new int[] {0, 31})), one, two, false);
            }
        }
    }

    private static void same(String name, Consumer<HashHall> run, int one, int two, boolean want) {
        due.idle(name, run, h -> Due.bit(h.same(one, two)), Due.bit(want));
        due.idle(name, run, h -> Due.bit(h.same(two, one)), Due.bit(want));
    }

    /** 16: the order is not of the entries; many entries are told as few are. */
    private static void sameIsNotByOrder() {
        for (int one = 0; one < 3; one++) {
            int two = (one + 1) % 3;
            Consumer<HashHall> run = Halls.with(one, new int[] {1, 10, 2, 20, 3, 30})
                .andThen(Halls.with(two, new int[] {3, 30, 1, 10, 2, 20}));
            same("16: another order", run, one, two, true);
            HashHall hall = new HashHall();
            Halls.bring(hall, one, 0, 1401);
            Halls.bring(hall, two, 0, 1401);
            due.is("16: many", hall.same(one, two), true);
            hall.put(two, 1400, -1);
            due.is("16: many, the last value is another", hall.same(one, two), false);
            hall.put(one, 1400, -1);
            due.is("16: many again", hall.same(one, two), true);
            hall.remove(two, 0);
            due.is("16: many, the first has gone", hall.same(one, two), false);
        }
    }

    /** 16: "false if there is no such map": the first, the second or both. */
    private static void sameOfNoMap() {
        for (Consumer<HashHall> run : Halls.beginnings()) {
            for (int none : Halls.NO_MAPS) {
                for (int map = 0; map < 3; map++) {
                    same("16: maps " + none + " and " + map, run, none, map, false);
                }
                for (int other : Halls.NO_MAPS) {
                    same("16: maps " + none + " and " + other, run, none, other, false);
                }
            }
        }
    }
}
