/** Promises 1 to 8: a new object, and the calls that are about one entry. */
public final class OneEntryTest {
    private static final int MIN = Halls.MIN;
    private static final int MAX = Halls.MAX;
    private static final int[] NO_MAPS = Halls.NO_MAPS;

    private static final Due due = new Due();

    public static void main(String[] args) {
        promise1NewObject();
        promise2Put();
        promise2PutAndOrder();
        promise3Add();
        promise3AddAndOrder();
        promise4Get();
        promise5Give();
        promise6Remove();
        promise6RemoveAndOrder();
        promise7Take();
        promise8Has();
        mapsStandApart();
        due.end("OneEntryTest");
    }

    /** Keys 1, 2, 3 with values 10, 20, 30, come in this order. */
    private static HashHall hallOfThree(int map) {
        HashHall hall = new HashHall();
        for (int key = 1; key <= 3; key++) {
            hall.put(map, key, 10 * key);
        }
        return hall;
    }

    private static void promise1NewObject() {
        for (int map = 0; map < 3; map++) {
            HashHall hall = new HashHall();
            due.is("1: size", hall.size(map), 0);
            due.is("1: get", hall.get(map, 0), Due.NOTHING);
            due.is("1: has key 0", hall.has(map, 0, 0), false);
            due.is("1: has value 0", hall.has(map, 1, 0), false);
            due.is("1: sum", hall.sum(map), 0);
            due.is("1: entry", hall.entry(map, 0, 0), map == 0 ? Due.NOBODY : Due.NOTHING);
        }
        HashHall one = hallOfThree(1);
        HashHall two = new HashHall();
        due.is("1: another object stands apart", two.size(1), 0);
        due.is("1: the first object keeps its own", one.size(1), 3);
    }

    private static void promise2Put() {
        for (int map = 0; map < 3; map++) {
            HashHall hall = new HashHall();
            due.is("2: put of a new key", hall.put(map, 5, 50), Due.NOTHING);
            due.is("2: put of a key that is there", hall.put(map, 5, 51), 50);
            due.is("2: put of the same value", hall.put(map, 5, 51), 51);
            due.is("2: value then", hall.get(map, 5), 51);
            due.is("2: size then", hall.size(map), 1);
            due.is("2: put of key 0, value 0", hall.put(map, 0, 0), Due.NOTHING);
            due.is("2: put on value 0", hall.put(map, 0, -1), 0);
            due.is("2: put on value -1", hall.put(map, 0, 7), -1);
            due.is("2: put of the least", hall.put(map, MIN, MIN), Due.NOTHING);
            due.is("2: put of the greatest", hall.put(map, MAX, MAX), Due.NOTHING);
            due.is("2: put on the least", hall.put(map, MIN, 1), MIN);
            due.is("2: put on the greatest", hall.put(map, MAX, 1), MAX);
            due.is("2: size at the end", hall.size(map), 4);
        }
        for (int map : NO_MAPS) {
            due.is("2: put into no map", new HashHall().put(map, 1, 1), Due.NOBODY);
        }
    }

    private static void promise2PutAndOrder() {
        HashHall hall = hallOfThree(1);
        hall.put(1, 1, 11);
        due.keys("2: put does not move", hall, 1, 1, 2, 3);
        due.values("2: put changes in place", hall, 1, 11, 20, 30);
        hall = hallOfThree(2);
        hall.put(2, 1, 11);
        due.keys("2: put uses", hall, 2, 2, 3, 1);
        due.values("2: put uses", hall, 2, 20, 30, 11);
        hall.put(2, 1, 12);
        due.keys("2: put of the last", hall, 2, 2, 3, 1);
        hall.put(2, 3, 30);
        due.keys("2: put of the middle", hall, 2, 2, 1, 3);
    }

    private static void promise3Add() {
        for (int map = 0; map < 3; map++) {
            HashHall hall = new HashHall();
            due.is("3: add of a new key", hall.add(map, 5, 50), Due.NOTHING);
            due.is("3: add of a key that is there", hall.add(map, 5, 51), 50);
            due.is("3: nothing is changed", hall.get(map, 5), 50);
            due.is("3: size", hall.size(map), 1);
            due.is("3: add of value 0", hall.add(map, 0, 0), Due.NOTHING);
            due.is("3: add on value 0", hall.add(map, 0, 9), 0);
            due.is("3: value 0 stays", hall.get(map, 0), 0);
            due.is("3: add of the least", hall.add(map, MIN, MIN), Due.NOTHING);
            due.is("3: add on the least", hall.add(map, MIN, 0), MIN);
        }
        for (int map : NO_MAPS) {
            due.is("3: add to no map", new HashHall().add(map, 1, 1), Due.NOBODY);
        }
    }

    private static void promise3AddAndOrder() {
        HashHall hall = hallOfThree(1);
        hall.add(1, 1, 99);
        hall.add(1, 4, 40);
        due.keys("3: add", hall, 1, 1, 2, 3, 4);
        due.values("3: add", hall, 1, 10, 20, 30, 40);
        hall = hallOfThree(2);
        hall.add(2, 1, 99);
        hall.add(2, 4, 40);
        due.keys("3: add uses", hall, 2, 2, 3, 1, 4);
        due.values("3: add uses", hall, 2, 20, 30, 10, 40);
    }

    private static void promise4Get() {
        for (int map = 0; map < 3; map++) {
            HashHall hall = hallOfThree(map);
            due.is("4: get", hall.get(map, 2), 20);
            due.is("4: get of no key", hall.get(map, 4), Due.NOTHING);
            due.is("4: get does not make it", hall.size(map), 3);
            due.is("4: get of a value is none", hall.get(map, 20), Due.NOTHING);
            hall.put(map, -1, -7);
            due.is("4: get of a value below 0", hall.get(map, -1), -7);
        }
        for (int map : NO_MAPS) {
            due.is("4: get of no map", new HashHall().get(map, 1), Due.NOBODY);
        }
        HashHall hall = hallOfThree(1);
        hall.get(1, 1);
        due.keys("4: get does not move", hall, 1, 1, 2, 3);
        hall = hallOfThree(2);
        hall.get(2, 1);
        due.keys("4: get uses", hall, 2, 2, 3, 1);
        hall.get(2, 9);
        due.keys("4: get of no key uses none", hall, 2, 2, 3, 1);
    }

    private static void promise5Give() {
        for (int map = 0; map < 3; map++) {
            HashHall hall = hallOfThree(map);
            due.is("5: give", hall.give(map, 2, 7), 20);
            due.is("5: give of no key", hall.give(map, 4, 7), 7);
            due.is("5: give of no key, below 0", hall.give(map, 4, MIN), MIN);
            due.is("5: give does not make it", hall.size(map), 3);
            due.is("5: give, the value is other", hall.give(map, 3, 30), 30);
        }
        for (int map : NO_MAPS) {
            due.is("5: give of no map", new HashHall().give(map, 1, 7), Due.NOBODY);
        }
        HashHall hall = hallOfThree(1);
        hall.give(1, 1, 0);
        due.keys("5: give does not move", hall, 1, 1, 2, 3);
        hall = hallOfThree(2);
        hall.give(2, 2, 0);
        due.keys("5: give uses", hall, 2, 1, 3, 2);
        hall.give(2, 9, 0);
        due.keys("5: give of no key uses none", hall, 2, 1, 3, 2);
    }

    private static void promise6Remove() {
        for (int map = 0; map < 3; map++) {
            HashHall hall = hallOfThree(map);
            due.is("6: remove", hall.remove(map, 2), 20);
            due.is("6: remove again", hall.remove(map, 2), Due.NOTHING);
            due.is("6: it is gone", hall.has(map, 0, 2), false);
            due.is("6: others stay", hall.get(map, 1) + hall.get(map, 3), 40);
            due.is("6: size", hall.size(map), 2);
            due.is("6: remove of no key", hall.remove(map, 20), Due.NOTHING);
            due.is("6: a key comes again", hall.put(map, 2, 21), Due.NOTHING);
            due.is("6: with its new value", hall.remove(map, 2), 21);
        }
        for (int map : NO_MAPS) {
            due.is("6: remove from no map", new HashHall().remove(map, 1), Due.NOBODY);
        }
    }

    private static void promise6RemoveAndOrder() {
        for (int map = 1; map < 3; map++) {
            HashHall hall = hallOfThree(map);
            hall.remove(map, 1);
            due.keys("6: remove of the first", hall, map, 2, 3);
            hall.put(map, 1, 11);
            due.keys("6: what comes again comes last", hall, map, 2, 3, 1);
            hall.remove(map, 3);
            due.keys("6: remove of the middle", hall, map, 2, 1);
            hall.remove(map, 1);
            due.keys("6: remove of the last", hall, map, 2);
            hall.remove(map, 9);
            due.keys("6: remove of none", hall, map, 2);
            hall.remove(map, 2);
            due.keys("6: remove of all", hall, map);
            hall.put(map, 7, 70);
            hall.put(map, 6, 60);
            due.keys("6: new ones then", hall, map, 7, 6);
        }
    }

    private static void promise7Take() {
        for (int map = 0; map < 3; map++) {
            HashHall hall = hallOfThree(map);
            due.is("7: take, another value", hall.take(map, 2, 21), false);
            due.is("7: it stays", hall.has(map, 0, 2), true);
            due.is("7: take of no key", hall.take(map, 20, 2), false);
            due.is("7: take of no key, value 0", hall.take(map, 9, 0), false);
            due.is("7: take", hall.take(map, 2, 20), true);
            due.is("7: it is gone", hall.has(map, 0, 2), false);
            due.is("7: take again", hall.take(map, 2, 20), false);
            due.is("7: size", hall.size(map), 2);
        }
        for (int map : NO_MAPS) {
            due.is("7: take from no map", new HashHall().take(map, 0, 0), false);
        }
        HashHall hall = hallOfThree(2);
        hall.take(2, 1, 99);
        due.keys("7: take that fails uses none", hall, 2, 1, 2, 3);
        hall.take(2, 2, 20);
        due.keys("7: take", hall, 2, 1, 3);
        hall = hallOfThree(1);
        hall.take(1, 1, 10);
        hall.put(1, 1, 10);
        due.keys("7: what comes again comes last", hall, 1, 2, 3, 1);
    }

    private static void promise8Has() {
        for (int map = 0; map < 3; map++) {
            HashHall hall = hallOfThree(map);
            due.is("8: has a key", hall.has(map, 0, 3), true);
            due.is("8: has no such key", hall.has(map, 0, 30), false);
            due.is("8: has a value", hall.has(map, 1, 30), true);
            due.is("8: has the first value", hall.has(map, 1, 10), true);
            due.is("8: has no such value", hall.has(map, 1, 3), false);
            due.is("8: value 0 is not there", hall.has(map, 1, 0), false);
            for (int what : new int[] {-1, 2, MIN, MAX}) {
                due.is("8: another what", hall.has(map, what, 3), false);
                due.is("8: another what", hall.has(map, what, 30), false);
            }
            hall.put(map, 3, 31);
            due.is("8: a value that was changed", hall.has(map, 1, 30), false);
            hall.remove(map, 1);
            due.is("8: the value of a key that is gone", hall.has(map, 1, 10), false);
        }
        for (int map : NO_MAPS) {
            due.is("8: no map, key", hallOfThree(0).has(map, 0, 1), false);
            due.is("8: no map, value", hallOfThree(0).has(map, 1, 10), false);
        }
        HashHall hall = hallOfThree(2);
        hall.has(2, 0, 1);
        hall.has(2, 1, 20);
        due.keys("8: has uses none", hall, 2, 1, 2, 3);
    }

    private static void mapsStandApart() {
        HashHall hall = new HashHall();
        for (int map = 0; map < 3; map++) {
            due.is("a key comes into each map", hall.put(map, 1, map), Due.NOTHING);
        }
        for (int map = 0; map < 3; map++) {
            due.is("each map has its own value", hall.get(map, 1), map);
        }
        hall.remove(1, 1);
        due.is("map 0 keeps it", hall.get(0, 1), 0);
        due.is("map 2 keeps it", hall.get(2, 1), 2);
    }
}
