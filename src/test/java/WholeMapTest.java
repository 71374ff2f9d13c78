/** Promises 9 to 17: the calls that are about whole maps. */
public final class WholeMapTest {
    private static final int MIN = Halls.MIN;
    private static final int MAX = Halls.MAX;
    private static final int[] NO_MAPS = Halls.NO_MAPS;

    private static final Due due = new Due();

    public static void main(String[] args) {
        promise9Size();
        promise10Clear();
        promise11PourInOrder();
        promise11PourFromMap0();
        promise11PourTooMuch();
        promise11PourRefused();
        promise12Entry();
        promise13Sum();
        promise14Sweep();
        promise14SweepRefused();
        promise14SweepAndOrder();
        promise15Raise();
        promise16Same();
        promise17Fill();
        promise17FillAndOrder();
        promise17FillRefused();
        due.end("WholeMapTest");
    }

    /** Keys 1, 2, 3 with values 10, 20, 30, come in this order. */
    private static void putThree(HashHall hall, int map) {
        for (int key = 1; key <= 3; key++) {
            hall.put(map, key, 10 * key);
        }
    }

    private static void promise9Size() {
        for (int map = 0; map < 3; map++) {
            HashHall hall = new HashHall();
            due.is("9: size of none", hall.size(map), 0);
            putThree(hall, map);
            due.is("9: size of three", hall.size(map), 3);
            due.is("9: size of another map", hall.size((map + 1) % 3), 0);
            hall.put(map, 3, 3);
            due.is("9: put on an old key", hall.size(map), 3);
            hall.remove(map, 3);
            due.is("9: size of two", hall.size(map), 2);
        }
        for (int map : NO_MAPS) {
            due.is("9: size of no map", new HashHall().size(map), -1);
        }
    }

    private static void promise10Clear() {
        for (int map = 0; map < 3; map++) {
            HashHall hall = new HashHall();
            due.is("10: clear of none", hall.clear(map), 0);
            putThree(hall, map);
            putThree(hall, (map + 1) % 3);
            due.is("10: clear of three", hall.clear(map), 3);
            due.is("10: size then", hall.size(map), 0);
            due.is("10: keys are gone", hall.get(map, 1), Due.NOTHING);
            due.is("10: values are gone", hall.has(map, 1, 10), false);
            due.is("10: clear again", hall.clear(map), 0);
            due.is("10: another map stays", hall.size((map + 1) % 3), 3);
            due.is("10: keys come again", hall.put(map, 3, 1), Due.NOTHING);
            hall.put(map, 1, 1);
            due.is("10: size at the end", hall.size(map), 2);
            if (map != 0) {
                due.keys("10: order anew", hall, map, 3, 1);
            }
        }
        for (int map : NO_MAPS) {
            due.is("10: clear of no map", new HashHall().clear(map), -1);
        }
        HashHall hall = new HashHall();
        Halls.bring(hall, 1, 0, 900);
        hall.sweep(1, 2, 0);
        due.is("10: clear of many", hall.clear(1), 450);
        Halls.bring(hall, 1, 100, 800);
        due.is("10: many come again", hall.size(1), 800);
        due.is("10: the first of them", hall.entry(1, 0, 0), 100);
        due.is("10: the last of them", hall.entry(1, 799, 0), 899);
    }

    private static void promise11PourInOrder() {
        HashHall hall = new HashHall();
        putThree(hall, 1);
        hall.put(2, 2, 99);
        hall.put(2, 9, 90);
        due.is("11: 1 into 2", hall.pour(1, 2), 4);
        due.keys("11: 1 into 2", hall, 2, 9, 1, 2, 3);
        due.values("11: 1 into 2", hall, 2, 90, 10, 20, 30);
        due.keys("11: what is poured stays", hall, 1, 1, 2, 3);

        hall = new HashHall();
        putThree(hall, 2);
        hall.get(2, 1);
        hall.put(1, 3, 99);
        hall.put(1, 8, 80);
        due.is("11: 2 into 1", hall.pour(2, 1), 4);
        due.keys("11: 2 into 1", hall, 1, 3, 8, 2, 1);
        due.values("11: 2 into 1", hall, 1, 30, 80, 20, 10);
        due.keys("11: pouring out uses none", hall, 2, 2, 3, 1);

        for (int from = 1; from < 3; from++) {
            hall = new HashHall();
            putThree(hall, from);
            hall.put(0, 3, 99);
            hall.put(0, 7, 70);
            due.is("11: into 0", hall.pour(from, 0), 4);
            due.is("11: a value is changed", hall.get(0, 3), 30);
            due.is("11: a key has come", hall.get(0, 1), 10);
            due.is("11: an old one stays", hall.get(0, 7), 70);
            due.is("11: what is poured stays", hall.size(from), 3);
            due.is("11: of none into 0", new HashHall().pour(from, 0), 0);
        }
    }

    private static void promise11PourFromMap0() {
        HashHall hall = new HashHall();
        hall.put(1, 4, 40);
        putThree(hall, 1);
        hall.put(0, 3, -3);
        hall.put(0, 4, -4);
        due.is("11: 0 into 1 with all its keys", hall.pour(0, 1), 4);
        due.keys("11: 0 into 1", hall, 1, 4, 1, 2, 3);
        due.values("11: 0 into 1", hall, 1, -4, 10, 20, -3);
        hall.put(0, 5, 50);
        hall.put(0, 4, 44);
        due.is("11: 0 into 1, a key is not there", hall.pour(0, 1), -1);
        due.keys("11: nothing is done", hall, 1, 4, 1, 2, 3);
        due.values("11: nothing is done", hall, 1, -4, 10, 20, -3);
        due.is("11: map 0 stays", hall.size(0), 3);
        hall.clear(0);
        due.is("11: none of 0 into 1", hall.pour(0, 1), 4);

        hall = new HashHall();
        putThree(hall, 0);
        putThree(hall, 2);
        due.is("11: 0 into 2", hall.pour(0, 2), -1);
        hall.put(0, 2, 99);
        due.is("11: 0 into 2", hall.pour(0, 2), -1);
        due.keys("11: nothing is done in 2", hall, 2, 1, 2, 3);
        due.values("11: nothing is done in 2", hall, 2, 10, 20, 30);
        due.is("11: none of 0 into 2", new HashHall().pour(0, 2), -1);
    }

    private static void promise11PourTooMuch() {
        int[][] ways = {{1, 2}, {2, 1}, {1, 0}, {2, 0}};
        for (int[] way : ways) {
            HashHall hall = new HashHall();
            Halls.bring(hall, way[0], 0, 900);
            Halls.bring(hall, way[1], 5000, 500);
            due.is("11: 1400 together", hall.pour(way[0], way[1]), 1400);
            due.is("11: both have more", hall.pour(way[0], way[1]), -1);
            due.is("11: nothing is done", hall.size(way[1]), 1400);

            hall = new HashHall();
            Halls.bring(hall, way[0], 0, 900);
            Halls.bring(hall, way[1], 0, 501);
            hall.put(way[1], 0, 77);
            due.is("11: 1401 together, keys shared", hall.pour(way[0], way[1]), -1);
            due.is("11: nothing is done", hall.size(way[1]), 501);
            due.is("11: no value is changed", hall.get(way[1], 0), 77);
        }
        HashHall hall = new HashHall();
        Halls.bring(hall, 0, 0, 700);
        Halls.bring(hall, 1, 0, 700);
        due.is("11: 0 into 1, 1400 together", hall.pour(0, 1), 700);
        hall.put(1, -1, -1);
        due.is("11: 0 into 1, 1401 together", hall.pour(0, 1), -1);
    }

    private static void promise11PourRefused() {
        for (int map = 0; map < 3; map++) {
            HashHall hall = new HashHall();
            putThree(hall, map);
            due.is("11: into itself", hall.pour(map, map), -1);
            due.is("11: into itself, nothing is done", hall.size(map), 3);
            for (int other : NO_MAPS) {
                due.is("11: into no map", hall.pour(map, other), -1);
                due.is("11: from no map", hall.pour(other, map), -1);
                due.is("11: from no map into none", hall.pour(other, other), -1);
            }
        }
        HashHall hall = new HashHall();
        putThree(hall, 2);
        hall.pour(2, 2);
        due.keys("11: into itself uses none", hall, 2, 1, 2, 3);
    }

    private static void promise12Entry() {
        for (int map = 1; map < 3; map++) {
            HashHall hall = new HashHall();
            due.is("12: of none", hall.entry(map, 0, 0), Due.NOTHING);
            hall.put(map, 3, 30);
            hall.put(map, 1, 10);
            hall.put(map, 2, 20);
            for (int k = 0; k < 3; k++) {
                due.is("12: key", hall.entry(map, k, 0), new int[] {3, 1, 2}[k]);
                due.is("12: value", hall.entry(map, k, 1), new int[] {30, 10, 20}[k]);
            }
            for (int k : new int[] {-1, 3, 4, MIN, MAX}) {
                due.is("12: no entry, key", hall.entry(map, k, 0), Due.NOTHING);
                due.is("12: no entry, value", hall.entry(map, k, 1), Due.NOTHING);
                due.is("12: no entry, another what", hall.entry(map, k, 2), Due.NOBODY);
            }
            for (int what : new int[] {-1, 2, MIN, MAX}) {
                due.is("12: another what", hall.entry(map, 0, what), Due.NOBODY);
            }
            due.keys("12: entry uses none", hall, map, 3, 1, 2);
        }
        HashHall hall = new HashHall();
        putThree(hall, 0);
        for (int k = -1; k < 5; k++) {
            due.is("12: map 0, key", hall.entry(0, k, 0), Due.NOBODY);
            due.is("12: map 0, value", hall.entry(0, k, 1), Due.NOBODY);
        }
        for (int map : NO_MAPS) {
            due.is("12: no map", hall.entry(map, 0, 0), Due.NOBODY);
            due.is("12: no map, no entry", hall.entry(map, -1, 1), Due.NOBODY);
        }
    }

    private static void promise13Sum() {
        for (int map = 0; map < 3; map++) {
            HashHall hall = new HashHall();
            due.is("13: sum of none", hall.sum(map), 0);
            putThree(hall, map);
            due.is("13: sum", hall.sum(map), 31 * 6 + 60);
            hall.put(map, MAX, MAX);
            due.is("13: sum, 64 bits", hall.sum(map), 68719476950L);
            hall.put(map, MAX - 1, MAX);
            due.is("13: sum, 64 bits", hall.sum(map), 137438953623L);
            hall.clear(map);
            hall.put(map, MIN, MIN);
            due.is("13: sum of the least", hall.sum(map), -68719476736L);
            hall.clear(map);
            hall.put(map, 0, MAX);
            hall.put(map, 1, MAX);
            due.is("13: sum of values", hall.sum(map), 4294967325L);
        }
        for (int map : NO_MAPS) {
            due.is("13: sum of no map", new HashHall().sum(map), Due.NOBODY);
        }
        HashHall hall = new HashHall();
        putThree(hall, 2);
        hall.sum(2);
        due.keys("13: sum uses none", hall, 2, 1, 2, 3);
    }

    private static void promise14Sweep() {
        for (int map = 0; map < 3; map++) {
            HashHall hall = new HashHall();
            hall.fill(map, -5, 1, 11);
            due.is("14: rest 1 of 3", hall.sweep(map, 3, 1), 4);
            for (int key = -5; key <= 5; key++) {
                boolean goes = key == -5 || key == -2 || key == 1 || key == 4;
                due.is("14: key " + key, hall.has(map, 0, key), !goes);
            }
            due.is("14: size", hall.size(map), 7);
            due.is("14: again", hall.sweep(map, 3, 1), 0);
            due.is("14: rest below 0", hall.sweep(map, 3, -1), 0);
            due.is("14: rest is step", hall.sweep(map, 3, 3), 0);
            due.is("14: rest above step", hall.sweep(map, 3, 4), 0);
            due.is("14: rest 2 of 3", hall.sweep(map, 3, 2), 4);
            due.is("14: step 1, rest 1", hall.sweep(map, 1, 1), 0);
            due.is("14: step 1, rest 0", hall.sweep(map, 1, 0), 3);
            due.is("14: none is left", hall.size(map), 0);
            due.is("14: of none", hall.sweep(map, 1, 0), 0);
            hall.put(map, MIN, 1);
            hall.put(map, MAX, 2);
            due.is("14: greatest step", hall.sweep(map, MAX, MAX - 1), 1);
            due.is("14: the least has gone", hall.has(map, 0, MIN), false);
            due.is("14: greatest step, rest 0", hall.sweep(map, MAX, 0), 1);
        }
    }

    private static void promise14SweepRefused() {
        for (int map = 0; map < 3; map++) {
            HashHall hall = new HashHall();
            putThree(hall, map);
            for (int step : new int[] {0, -1, -3, MIN}) {
                due.is("14: step below 1", hall.sweep(map, step, 0), -1);
            }
            due.is("14: none goes", hall.size(map), 3);
        }
        for (int map : NO_MAPS) {
            due.is("14: no map", new HashHall().sweep(map, 1, 0), -1);
        }
    }

    private static void promise14SweepAndOrder() {
        for (int map = 1; map < 3; map++) {
            HashHall hall = new HashHall();
            hall.fill(map, 9, -1, 10);
            due.is("14: even ones go", hall.sweep(map, 2, 0), 5);
            due.keys("14: the others stay in order", hall, map, 9, 7, 5, 3, 1);
            hall.put(map, 8, 0);
            due.keys("14: what comes again comes last", hall, map, 9, 7, 5, 3, 1, 8);
        }
    }

    private static void promise15Raise() {
        for (int map = 0; map < 3; map++) {
            HashHall hall = new HashHall();
            due.is("15: raise of none", hall.raise(map, 5), 0);
            putThree(hall, map);
            due.is("15: raise", hall.raise(map, 5), 3);
            due.is("15: by 0", hall.raise(map, 0), 3);
            due.is("15: values then", hall.has(map, 1, 15) && hall.has(map, 1, 25), true);
            due.is("15: sum then", hall.sum(map), 31 * 6 + 75);
            due.is("15: down", hall.raise(map, -16), 3);
            due.is("15: below 0", hall.get(map, 1), -1);
            hall.put(map, 2, MAX);
            due.is("15: wrapping", hall.raise(map, 1), 3);
            due.is("15: the least then", hall.get(map, 2), MIN);
            due.is("15: wrapping back", hall.raise(map, MIN), 3);
            due.is("15: 0 then", hall.get(map, 2), 0);
        }
        for (int map : NO_MAPS) {
            due.is("15: no map", new HashHall().raise(map, 1), -1);
        }
        HashHall hall = new HashHall();
        putThree(hall, 2);
        hall.get(2, 1);
        hall.raise(2, 1);
        due.keys("15: raise uses none", hall, 2, 2, 3, 1);
        due.values("15: raise", hall, 2, 21, 31, 11);
    }

    private static void promise16Same() {
        for (int one = 0; one < 3; one++) {
            for (int two = 0; two < 3; two++) {
                HashHall hall = new HashHall();
                due.is("16: both have none", hall.same(one, two), true);
                putThree(hall, one);
                due.is("16: one has some", hall.same(one, two), one == two);
                due.is("16: two has some", hall.same(two, one), one == two);
                for (int key = 3; key >= 1; key--) {
                    hall.put(two, key, 10 * key);
                }
                due.is("16: another order", hall.same(one, two), true);
                hall.put(two, 2, 21);
                due.is("16: another value", hall.same(one, two), one == two);
                hall.remove(two, 2);
                hall.put(two, 4, 20);
                due.is("16: another key", hall.same(one, two), one == two);
                hall.put(two, 2, 20);
                due.is("16: one more", hall.same(one, two), one == two);
                due.is("16: one fewer", hall.same(two, one), one == two);
            }
            for (int map : NO_MAPS) {
                due.is("16: no second map", new HashHall().same(one, map), false);
                due.is("16: no first map", new HashHall().same(map, one), false);
                due.is("16: no map at all", new HashHall().same(map, map), false);
            }
        }
        HashHall hall = new HashHall();
        putThree(hall, 2);
        hall.fill(1, 3, -1, 3);
        hall.same(1, 2);
        hall.same(2, 1);
        due.keys("16: same uses none", hall, 2, 1, 2, 3);
    }

    private static void promise17Fill() {
        for (int map = 0; map < 3; map++) {
            HashHall hall = new HashHall();
            due.is("17: fill", hall.fill(map, 7, 3, 4), 4);
            for (int i = 0; i < 4; i++) {
                due.is("17: value " + i, hall.get(map, 7 + 3 * i), i);
            }
            due.is("17: fill on old keys", hall.fill(map, 16, 3, 2), 5);
            due.is("17: a value is changed", hall.get(map, 16), 0);
            due.is("17: one key", hall.fill(map, 0, 9, 1), 6);
            due.is("17: step 0", hall.fill(map, 50, 0, 400), 7);
            due.is("17: step 0, the last value", hall.get(map, 50), 399);
            due.is("17: wrapping", hall.fill(map, MAX, 1, 2), 9);
            due.is("17: wrapping, the first", hall.get(map, MAX), 0);
            due.is("17: wrapping, the second", hall.get(map, MIN), 1);
            due.is("17: a step that wraps", hall.fill(map, 0, MIN, 3), 9);
            due.is("17: a step that wraps", hall.get(map, 0), 2);
        }
    }

    private static void promise17FillAndOrder() {
        HashHall hall = new HashHall();
        hall.put(1, 2, 9);
        hall.put(1, 5, 9);
        hall.fill(1, 4, -1, 3);
        due.keys("17: fill", hall, 1, 2, 5, 4, 3);
        due.values("17: fill", hall, 1, 2, 9, 0, 1);
        hall = new HashHall();
        hall.put(2, 3, 9);
        hall.put(2, 5, 9);
        hall.fill(2, 4, -1, 3);
        due.keys("17: fill uses", hall, 2, 5, 4, 3, 2);
        due.values("17: fill uses", hall, 2, 9, 0, 1, 2);
    }

    private static void promise17FillRefused() {
        for (int map = 0; map < 3; map++) {
            HashHall hall = new HashHall();
            for (int n : new int[] {0, -1, 401, MIN, MAX}) {
                due.is("17: another n", hall.fill(map, 0, 1, n), -1);
            }
            due.is("17: none comes", hall.size(map), 0);
            due.is("17: 400", hall.fill(map, 0, 1, 400), 400);
            due.is("17: 800", hall.fill(map, 400, 1, 400), 800);
            due.is("17: 1000", hall.fill(map, 800, 1, 200), 1000);
            due.is("17: 1000 are not too many", hall.fill(map, 1000, 1, 1), 1001);
            due.is("17: 1001 are too many", hall.fill(map, 0, 1, 1), -1);
            due.is("17: none comes then", hall.fill(map, 5000, 1, 400), -1);
            due.is("17: none comes then", hall.size(map), 1001);
            hall.remove(map, 0);
            due.is("17: 1400", hall.fill(map, 5000, 1, 400), 1400);
        }
        for (int map : NO_MAPS) {
            due.is("17: no map", new HashHall().fill(map, 0, 1, 1), -1);
        }
    }
}
