import java.util.function.Consumer;

/** Promises 11, 14, 17, by which many entries come or go: a test for each sentence with an edge. */
public final class ManyEdgesTest {
    private static final int MIN = Halls.MIN;
    private static final int MAX = Halls.MAX;

    /** From and to, where map 1 or 2 is poured out. */
    private static final int[][] WAYS = {{1, 2}, {2, 1}, {1, 0}, {2, 0}};

    private static final Due due = new Due();

    public static void main(String[] args) {
        pourAllEntriesInOrder();
        pourOneByOneAsByPut();
        pourOfNone();
        pourOfMap0IntoMap1();
        pourOfMap0WithAKeyThatIsNotThere();
        pourOfMap0IntoMap2();
        pourOfNoMapOrIntoNone();
        pourIntoItself();
        pourOfMoreThan1400();
        pourOfMap0OfMoreThan1400();
        sweepRoundedDown();
        sweepOfOtherRests();
        sweepTellsHowMany();
        sweepOfAStepBelow1();
        sweepOfNoMap();
        fillOf1To400();
        fillOfAnotherN();
        fillWraps();
        fillWithPut();
        fillOfMoreThan1000();
        fillOfNoMap();
        due.end("ManyEdgesTest");
    }

    private static Consumer<HashHall> smallWithout(int map) {
        return h -> {
            Halls.small(h);
            h.clear(map);
        };
    }

    /** 11: "All entries of a map come into another one: of map 1 or 2 in its order": new keys. */
    private static void pourAllEntriesInOrder() {
        due.leaves("11: 1 into 2", smallWithout(2), h -> h.pour(1, 2), 3,
            "0: 1=10 2=20 3=30 1: 3=31 1=11 2=21 2: 3=31 1=11 2=21");
        due.leaves("11: 2 into 1", smallWithout(1), h -> h.pour(2, 1), 3,
            "0: 1=10 2=20 3=30 1: 2=22 3=32 1=12 2: 2=22 3=32 1=12");
        due.leaves("11: 1 into 0", smallWithout(0), h -> h.pour(1, 0), 3,
            "0: 1=11 2=21 3=31 1: 3=31 1=11 2=21 2: 2=22 3=32 1=12");
        due.leaves("11: 2 into 0", smallWithout(0), h -> h.pour(2, 0), 3,
            "0: 1=12 2=22 3=32 1: 3=31 1=11 2=21 2: 2=22 3=32 1=12");
    }

    /** 11: "one by one as by put": the value is the new one; only in map 2 does a key move. */
    private static void pourOneByOneAsByPut() {
        Consumer<HashHall> more = h -> {
            Halls.small(h);
            h.remove(1, 1);
            h.put(1, 9, 91);
            h.put(2, 8, 82);
        };
        due.leaves("11: 1 into 2", more, h -> h.pour(1, 2), 5,
            "0: 1=10 2=20 3=30 1: 3=31 2=21 9=91 2: 1=12 8=82 3=31 2=21 9=91");
        due.leaves("11: 2 into 1", more, h -> h.pour(2, 1), 5,
            "0: 1=10 2=20 3=30 1: 3=32 2=22 9=91 1=12 8=82 2: 2=22 3=32 1=12 8=82");
        due.leaves("11: 1 into 0", more, h -> h.pour(1, 0), 4,
            "0: 1=10 2=21 3=31 9=91 1: 3=31 2=21 9=91 2: 2=22 3=32 1=12 8=82");
        due.leaves("11: 2 into 0", more, h -> h.pour(2, 0), 4,
            "0: 1=12 2=22 3=32 8=82 1: 3=31 2=21 9=91 2: 2=22 3=32 1=12 8=82");
    }

    /** 11: "how many that has then": also if none has come. */
    private static void pourOfNone() {
        for (int[] way : WAYS) {
            due.idle("11: none into none", Halls::empty, h -> h.pour(way[0], way[1]), 0);
            due.idle("11: none into three", smallWithout(way[0]), h -> h.pour(way[0], way[1]), 3);
        }
        due.idle("11: none of 0 into none", Halls::empty, h -> h.pour(0, 1), 0);
        due.idle("11: none of 0 into three", smallWithout(0), h -> h.pour(0, 1), 3);
    }

    /** 11: "of map 0 into map 1 alone, and only if that has all its keys". */
    private static void pourOfMap0IntoMap1() {
        due.leaves("11: the same keys", Halls::small, h -> h.pour(0, 1), 3,
            "0: 1=10 2=20 3=30 1: 3=30 1=10 2=20 2: 2=22 3=32 1=12");
        for (int key = 1; key <= 3; key++) {
            int one = key;
            String[] left = {"3=31 1=10 2=21", "3=31 1=11 2=20", "3=30 1=11 2=21"};
            Consumer<HashHall> run = smallWithout(0).andThen(h -> h.put(0, one, 10 * one));
            due.leaves("11: one of the keys", run, h -> h.pour(0, 1), 3,
                "0: " + key + "=" + 10 * key + " 1: " + left[key - 1] + " 2: 2=22 3=32 1=12");
        }
    }

    /** 11: "(else .. nothing is done)": one key that is not there is enough. */
    private static void pourOfMap0WithAKeyThatIsNotThere() {
        for (int key = 1; key <= 3; key++) {
            int one = key;
            Consumer<HashHall> lacking = h -> {
                Halls.small(h);
                h.remove(1, one);
            };
            due.idle("11: key " + key + " is not there", lacking, h -> h.pour(0, 1), -1);
        }
        for (int key : new int[] {MIN, -1, 0, 4, MAX}) {
            Consumer<HashHall> beyond = h -> {
                Halls.small(h);
                h.put(0, key, 5);
            };
            due.idle("11: key " + key + " is new", beyond, h -> h.pour(0, 1), -1);
        }
        due.idle("11: no key is there", smallWithout(1), h -> h.pour(0, 1), -1);
        Consumer<HashHall> many = Halls.with(0, 0, 700).andThen(Halls.with(1, 0, 699));
        due.idle("11: one of many is not there", many, h -> h.pour(0, 1), -1);
        due.is("11: all of many are there", answerOfPour(many.andThen(h -> h.put(1, 699, 0)), 0, 1), 700);
    }

    /** 11: "and into map 2, nothing is done": even if that has all the keys, or there are none. */
    private static void pourOfMap0IntoMap2() {
        due.idle("11: all keys are there", Halls::small, h -> h.pour(0, 2), -1);
        due.idle("11: no key is there", smallWithout(2), h -> h.pour(0, 2), -1);
        due.idle("11: none of 0 into three", smallWithout(0), h -> h.pour(0, 2), -1);
        due.idle("11: none of 0 into none", Halls::empty, h -> h.pour(0, 2), -1);
    }

    /** 11: "-1 if there is no such map". */
    private static void pourOfNoMapOrIntoNone() {
        for (Consumer<HashHall> run : Halls.beginnings()) {
            for (int none : Halls.NO_MAPS) {
                for (int map = 0; map < 3; map++) {
                    int one = map;
                    due.idle("11: " + none + " into " + map, run, h -> h.pour(none, one), -1);
                    due.idle("11: " + map + " into " + none, run, h -> h.pour(one, none), -1);
                }
                for (int other : Halls.NO_MAPS) {
                    due.idle("11: " + none + " into " + other, run, h -> h.pour(none, other), -1);
                }
            }
        }
    }

    /** 11: "they are the same". */
    private static void pourIntoItself() {
        for (int map = 0; map < 3; map++) {
            int one = map;
            due.idle("11: none into itself", Halls::empty, h -> h.pour(one, one), -1);
            due.idle("11: three into itself", Halls::small, h -> h.pour(one, one), -1);
        }
    }

    /** 11: "-1, too, if both have more than 1400 ENTRIES together (nothing is done)". */
    private static void pourOfMoreThan1400() {
        for (int[] way : WAYS) {
            for (int ofFrom : new int[] {0, 1, 400, 700, 1000, 1399, 1400}) {
                pourAround1400(way[0], way[1], ofFrom);
            }
            Consumer<HashHall> run = Halls.with(way[0], 0, 1401);
            due.idle("11: 1401 and none", run, h -> h.pour(way[0], way[1]), -1);
            run = Halls.with(way[0], 0, 1401).andThen(Halls.with(way[1], 0, 1401));
            due.idle("11: 1401 and 1401", run, h -> h.pour(way[0], way[1]), -1);
        }
    }

    /** With keys that are all different, and with as many shared as may be, which does not help. */
    private static void pourAround1400(int from, int to, int ofFrom) {
        for (int together = Math.max(1399, ofFrom); together <= 1401; together++) {
            int ofTo = together - ofFrom;
            String name = "11: " + ofFrom + " of " + from + " and " + ofTo + " of " + to;
            Consumer<HashHall> apart = Halls.with(from, 0, ofFrom).andThen(Halls.with(to, 1400, ofTo));
            Consumer<HashHall> shared = Halls.with(from, 0, ofFrom).andThen(Halls.with(to, 0, ofTo));
            if (together > 1400) {
                due.idle(name, apart, h -> h.pour(from, to), -1);
                due.idle(name + ", shared", shared, h -> h.pour(from, to), -1);
            } else {
                due.is(name, answerOfPour(apart, from, to), together);
                due.is(name + ", shared", answerOfPour(shared, from, to), Math.max(ofFrom, ofTo));
            }
        }
    }

    private static int answerOfPour(Consumer<HashHall> run, int from, int to) {
        HashHall hall = new HashHall();
        run.accept(hall);
        return hall.pour(from, to);
    }

    /** 11: the same for map 0 into map 1, which has all its keys. */
    private static void pourOfMap0OfMoreThan1400() {
        for (int ofMap0 : new int[] {0, 1, 400, 700}) {
            for (int together = 1399; together <= 1401; together++) {
                int ofMap1 = together - ofMap0;
                Consumer<HashHall> run = Halls.with(0, 0, ofMap0).andThen(Halls.with(1, 0, ofMap1));
                run = run.andThen(h -> h.raise(0, 7));
                String name = "11: " + ofMap0 + " of 0 and " + ofMap1 + " of 1";
                if (together > 1400) {
                    due.idle(name, run, h -> h.pour(0, 1), -1);
                } else if (ofMap0 <= ofMap1) {
                    due.is(name, answerOfPour(run, 0, 1), ofMap1);
                    HashHall hall = new HashHall();
                    run.accept(hall);
                    long sum = hall.sum(1);
                    hall.pour(0, 1);
                    due.is(name + ", values", hall.sum(1), sum + 7L * ofMap0);
                }
            }
        }
    }

    /** 14: "All entries of a map go whose keys leave rest when divided by step (rounded down)". */
    private static void sweepRoundedDown() {
        for (int map = 0; map < 3; map++) {
            swept(map, 1, 0, new int[] {MIN, -2, -1, 0, 1, 2, MAX}, new int[] {});
            swept(map, 2, 0, new int[] {MIN, -2, 0, 2, MAX - 1}, new int[] {MIN + 1, -3, -1, 1, MAX});
            swept(map, 2, 1, new int[] {MIN + 1, -3, -1, 1, MAX}, new int[] {MIN, -2, 0, 2, MAX - 1});
            swept(map, 3, 0, new int[] {-6, -3, 0, 3, 6}, new int[] {-5, -4, -2, -1, 1, 2, 4, 5});
            swept(map, 3, 1, new int[] {-5, -2, 1, 4}, new int[] {-6, -4, -3, -1, 0, 2, 3, 5});
            swept(map, 3, 2, new int[] {-4, -1, 2, 5}, new int[] {-6, -5, -3, -2, 0, 1, 3, 4});
            swept(map, MAX, 0, new int[] {-MAX, 0, MAX}, new int[] {MIN, -1, 1, MAX - 1});
            swept(map, MAX, MAX - 1, new int[] {MIN, -1, MAX - 1}, new int[] {-MAX, 0, 1, MAX});
            swept(map, MAX, 1, new int[] {-MAX + 1, 1}, new int[] {MIN, -MAX, -1, 0, MAX});
            swept(map, 1 << 30, 0, new int[] {MIN, -(1 << 30), 0, 1 << 30}, new int[] {-1, 1, MAX});
            swept(map, 1 << 30, (1 << 30) - 1, new int[] {-1, MAX}, new int[] {MIN, 0, 1, -2});
        }
    }

    private static void swept(int map, int step, int rest, int[] going, int[] staying) {
        HashHall hall = new HashHall();
        for (int i = 0; i < Math.max(going.length, staying.length); i++) {
            if (i < going.length) {
                hall.put(map, going[i], i);
            }
            if (i < staying.length) {
                hall.put(map, staying[i], -i);
            }
        }
        String name = "14: step " + step + ", rest " + rest;
        due.is(name, hall.sweep(map, step, rest), going.length);
        due.is(name + ", size", hall.size(map), staying.length);
        for (int key : going) {
            due.is(name + ", " + key + " goes", hall.has(map, 0, key), false);
        }
        for (int i = 0; i < staying.length; i++) {
            due.is(name + ", in order", hall.entry(map, i, 0), map == 0 ? Due.NOBODY : staying[i]);
        }
        for (int i = 0; i < staying.length; i++) {
            due.is(name + ", " + staying[i] + " stays", hall.get(map, staying[i]), -i);
        }
        due.is(name + ", again", hall.sweep(map, step, rest), 0);
    }

    /** 14: "so for a rest not 0 to step - 1 none". */
    private static void sweepOfOtherRests() {
        int[] keys = {MIN, 0, MIN + 1, 1, -3, 2, -2, 3, -1, 4, 0, 5, 1, 6, 2, 7, 3, 8, MAX - 1, 9, MAX, 10};
        for (int map = 0; map < 3; map++) {
            int one = map;
            Consumer<HashHall> run = Halls.with(map, keys);
            for (int step : new int[] {1, 2, 3, MAX - 1, MAX}) {
                for (int rest : new int[] {MIN, -step, -2, -1, step, MAX}) {
                    String name = "14: step " + step + ", rest " + rest;
                    due.idle(name, run, h -> h.sweep(one, step, rest), 0);
                }
                if (step < MAX) {
                    due.idle("14: rest step + 1", run, h -> h.sweep(one, step, step + 1), 0);
                }
            }
        }
    }

    /** 14: "how many". */
    private static void sweepTellsHowMany() {
        for (int map = 0; map < 3; map++) {
            int one = map;
            due.idle("14: of none", Halls::empty, h -> h.sweep(one, 1, 0), 0);
            due.idle("14: of another rest", Halls::small, h -> h.sweep(one, 4, 0), 0);
            for (int n : new int[] {1, 2, 1400, 1401}) {
                HashHall hall = new HashHall();
                Halls.bring(hall, map, 0, n);
                due.is("14: half of them", hall.sweep(map, 2, 0), (n + 1) / 2);
                due.is("14: the other half", hall.sweep(map, 2, 1), n / 2);
                due.is("14: none is left", hall.size(map), 0);
                due.is("14: they come again", hall.fill(map, 0, 1, 400), 400);
                due.is("14: all at once", hall.sweep(map, 1, 0), 400);
            }
        }
        due.leaves("14: map 1 alone", Halls::small, h -> h.sweep(1, 2, 1), 2,
            "0: 1=10 2=20 3=30 1: 2=21 2: 2=22 3=32 1=12");
        due.leaves("14: map 2 alone", Halls::small, h -> h.sweep(2, 2, 1), 2,
            "0: 1=10 2=20 3=30 1: 3=31 1=11 2=21 2: 2=22");
        due.leaves("14: map 0 alone", Halls::small, h -> h.sweep(0, 2, 1), 2,
            "0: 2=20 1: 3=31 1=11 2=21 2: 2=22 3=32 1=12");
    }

    /** 14: "-1 if .. step is below 1". */
    private static void sweepOfAStepBelow1() {
        for (int map = 0; map < 3; map++) {
            int one = map;
            for (int step : new int[] {MIN, MIN + 1, -3, -2, -1, 0}) {
                for (int rest : new int[] {MIN, -1, 0, 1, MAX}) {
                    String name = "14: step " + step + ", rest " + rest;
                    due.idle(name, Halls::small, h -> h.sweep(one, step, rest), -1);
                }
                due.idle("14: of none, step " + step, Halls::empty, h -> h.sweep(one, step, 0), -1);
            }
            due.leaves("14: step 1", smallWithout((one + 1) % 3), h -> h.sweep(one, 1, 0), 3,
                State.of(smallWithout((one + 1) % 3).andThen(h -> h.clear(one))));
        }
    }

    /** 14: "-1 if there is no such map". */
    private static void sweepOfNoMap() {
        for (Consumer<HashHall> run : Halls.beginnings()) {
            for (int map : Halls.NO_MAPS) {
                for (int step = -1; step <= 2; step++) {
                    int one = step;
                    due.idle("14: map " + map, run, h -> h.sweep(map, one, 0), -1);
                }
            }
        }
    }

    /** 17: "n (1 to 400) keys first, first + step, ..": "their values 0, 1, ..". */
    private static void fillOf1To400() {
        for (int map = 0; map < 3; map++) {
            for (int n : new int[] {1, 2, 3, 399, 400}) {
                for (int step : new int[] {1, 3, -1}) {
                    HashHall hall = new HashHall();
                    due.is("17: n " + n, hall.fill(map, 5, step, n), n);
                    for (int i = 0; i < n; i++) {
                        due.is("17: n " + n + ", value " + i, hall.get(map, 5 + i * step), i);
                    }
                    due.is("17: n " + n + ", no more", hall.get(map, 5 + n * step), Due.NOTHING);
                }
            }
        }
    }

    /** 17: "-1 for another .. n". */
    private static void fillOfAnotherN() {
        for (int map = 0; map < 3; map++) {
            int one = map;
            for (Consumer<HashHall> run : Halls.beginnings()) {
                for (int n : new int[] {MIN, -400, -1, 0, 401, 402, MAX}) {
                    due.idle("17: n " + n, run, h -> h.fill(one, 1, 1, n), -1);
                    due.idle("17: n " + n + ", one key", run, h -> h.fill(one, 1, 0, n), -1);
                }
            }
        }
    }

    /** 17: "(wrapping)": over the greatest, over the least, and by steps that go far. */
    private static void fillWraps() {
        filled(MAX - 1, 1, MAX - 1, MAX, MIN, MIN + 1);
        filled(MIN + 1, -1, MIN + 1, MIN, MAX, MAX - 1);
        filled(MAX, MAX, MAX, -2, MAX - 2, -4);
        filled(MIN, MAX, MIN, -1, MAX - 1, -3);
        filled(1, MIN + 1, 1, MIN + 2, 3, MIN + 4);
        filled(0, 1 << 30, 0, 1 << 30, MIN, -(1 << 30));
        for (int map = 0; map < 3; map++) {
            HashHall hall = new HashHall();
            due.is("17: two keys in turn", hall.fill(map, 5, MIN, 400), 2);
            due.is("17: the first in turn", hall.get(map, 5), 398);
            due.is("17: the second in turn", hall.get(map, 5 + MIN), 399);
            hall = new HashHall();
            due.is("17: round and round", hall.fill(map, 7, 100000000, 400), 400);
            due.is("17: the last of the round", hall.get(map, (int) (7 + 399 * 100000000L)), 399);
        }
    }

    private static void filled(int first, int step, int... keys) {
        for (int map = 0; map < 3; map++) {
            HashHall hall = new HashHall();
            String name = "17: " + first + " by " + step;
            due.is(name, hall.fill(map, first, step, keys.length), keys.length);
            for (int i = 0; i < keys.length; i++) {
                due.is(name + ", order", hall.entry(map, i, 0), map == 0 ? Due.NOBODY : keys[i]);
            }
            for (int i = 0; i < keys.length; i++) {
                due.is(name + ", value", hall.get(map, keys[i]), i);
            }
        }
    }

    /** 17: "come with put into a map": also on keys that are there, and on the same one again. */
    private static void fillWithPut() {
        due.leaves("17: map 0", Halls::small, h -> h.fill(0, 2, 1, 3), 4,
            "0: 1=10 2=0 3=1 4=2 1: 3=31 1=11 2=21 2: 2=22 3=32 1=12");
        due.leaves("17: map 1", Halls::small, h -> h.fill(1, 2, 1, 3), 4,
            "0: 1=10 2=20 3=30 1: 3=1 1=11 2=0 4=2 2: 2=22 3=32 1=12");
        due.leaves("17: map 2", Halls::small, h -> h.fill(2, 2, 1, 3), 4,
            "0: 1=10 2=20 3=30 1: 3=31 1=11 2=21 2: 1=12 2=0 3=1 4=2");
        due.leaves("17: step 0, n 1", Halls::small, h -> h.fill(2, 3, 0, 1), 3,
            "0: 1=10 2=20 3=30 1: 3=31 1=11 2=21 2: 2=22 1=12 3=0");
        due.leaves("17: step 0, n 400", Halls::small, h -> h.fill(1, 3, 0, 400), 3,
            "0: 1=10 2=20 3=30 1: 3=399 1=11 2=21 2: 2=22 3=32 1=12");
    }

    /** 17: "or if it has more than 1000 (none comes then)". */
    private static void fillOfMoreThan1000() {
        for (int map = 0; map < 3; map++) {
            int one = map;
            for (int n : new int[] {1, 2, 399, 400}) {
                for (int size = 998; size <= 1000; size++) {
                    HashHall hall = new HashHall();
                    Halls.bring(hall, map, 0, size);
                    due.is("17: " + n + " to " + size, hall.fill(map, 1100, 1, n), size + n);
                    due.is("17: the first", hall.get(map, 1100), 0);
                    due.is("17: the last", hall.get(map, 1100 + n - 1), n - 1);
                    due.is("17: then again", hall.fill(map, 0, 1, 1), size + n > 1000 ? -1 : size + n);
                }
                for (int size : new int[] {1001, 1002, 1400, 1401}) {
                    Consumer<HashHall> run = Halls.with(map, 0, size);
                    due.idle("17: new keys to " + size, run, h -> h.fill(one, 2000, 1, n), -1);
                    due.idle("17: old keys of " + size, run, h -> h.fill(one, 5, 1, n), -1);
                }
            }
            HashHall hall = new HashHall();
            Halls.bring(hall, map, 0, 1001);
            due.is("17: another map has few", hall.fill((map + 1) % 3, 0, 1, 2), 2);
            hall.remove(map, 1000);
            due.is("17: 1000 again", hall.fill(map, 0, 1, 2), 1000);
            due.is("17: 1000 again", hall.fill(map, -1, -1, 400), 1400);
        }
    }

    /** 17: "-1 for another map". */
    private static void fillOfNoMap() {
        for (Consumer<HashHall> run : Halls.beginnings()) {
            for (int map : Halls.NO_MAPS) {
                for (int n : new int[] {0, 1, 400, 401}) {
                    due.idle("17: map " + map, run, h -> h.fill(map, 1, 1, n), -1);
                }
            }
        }
    }
}
