import java.util.function.Consumer;

/** Promises 1 to 8: a test for each sentence that names an edge, at it and on both sides. */
public final class EntryEdgesTest {
    private static final int MIN = Halls.MIN;
    private static final int MAX = Halls.MAX;
    private static final int[] EDGES = {MIN, MIN + 1, -1, 0, 1, MAX - 1, MAX};

    private static final Due due = new Due();

    public static void main(String[] args) {
        newObjectIsAsTheTermsSay();
        newObjectSharesNothing();
        putTellsTheValueItHad();
        putTellsNothing();
        putIntoNoMap();
        addOnlyIfItWasNotThere();
        addChangesNothingElse();
        addUsesTheEntry();
        addToNoMap();
        getTellsTheValueOrNothing();
        getOfNoMap();
        giveTellsTheValueOrOther();
        giveOfNoMap();
        removeTellsTheValueOrNothing();
        removeTheOnlyEntry();
        removeFromNoMap();
        takeOnlyThisValue();
        takeOfNoKey();
        takeFromNoMap();
        hasAKey();
        hasAValue();
        hasAnotherWhat();
        hasInNoMap();
        due.end("EntryEdgesTest");
    }

    /** 1: "makes an object in the state that the terms give". */
    private static void newObjectIsAsTheTermsSay() {
        due.is("1: a new object", State.of(Halls::empty), "0:  1:  2: ");
        for (int map = 0; map < 3; map++) {
            int one = map;
            due.idle("1: size", Halls::empty, h -> h.size(one), 0);
            due.idle("1: sum", Halls::empty, h -> h.sum(one), 0);
            due.idle("1: clear", Halls::empty, h -> h.clear(one), 0);
            due.idle("1: sweep", Halls::empty, h -> h.sweep(one, 1, 0), 0);
            due.idle("1: raise", Halls::empty, h -> h.raise(one, 1), 0);
        }
    }

    private static void newObjectSharesNothing() {
        HashHall first = new HashHall();
        HashHall second = new HashHall();
        for (int map = 0; map < 3; map++) {
            first.put(map, 1, 10);
            due.is("1: the second object", second.size(map), 0);
            due.is("1: the second object", second.put(map, 1, 20), Due.NOTHING);
            due.is("1: the first object", first.get(map, 1), 10);
            due.is("1: an object made later", new HashHall().size(map), 0);
        }
    }

    /** 2: "The key has this value in a map then: the value it had". */
    private static void putTellsTheValueItHad() {
        for (int map = 0; map < 3; map++) {
            for (int key : EDGES) {
                HashHall hall = new HashHall();
                hall.put(map, key, MIN);
                long had = MIN;
                for (int value : EDGES) {
                    due.is("2: put on " + had, hall.put(map, key, value), had);
                    due.is("2: the key has " + value, hall.get(map, key), value);
                    had = value;
                }
                due.is("2: one entry", hall.size(map), 1);
            }
        }
    }

    /** 2: "or NOTHING": at first, beside a key that is there, and after it has gone. */
    private static void putTellsNothing() {
        for (int map = 0; map < 3; map++) {
            for (int key : EDGES) {
                HashHall hall = new HashHall();
                due.is("2: at first", hall.put(map, key, 5), Due.NOTHING);
                due.is("2: the next key below", hall.put(map, key - 1, 6), Due.NOTHING);
                due.is("2: the next key above", hall.put(map, key + 1, 7), Due.NOTHING);
                due.is("2: it is there", hall.put(map, key, 8), 5);
                hall.remove(map, key);
                due.is("2: it has gone", hall.put(map, key, 9), Due.NOTHING);
            }
        }
    }

    /** 2: "NOBODY." */
    private static void putIntoNoMap() {
        for (int map : Halls.NO_MAPS) {
            for (Consumer<HashHall> run : Halls.beginnings()) {
                due.idle("2: a key that is there, map " + map, run, h -> h.put(map, 1, 5), Due.NOBODY);
                due.idle("2: a new key, map " + map, run, h -> h.put(map, 4, 5), Due.NOBODY);
            }
        }
    }

    /** 3: "Likewise, but only if it was not there". */
    private static void addOnlyIfItWasNotThere() {
        for (int map = 0; map < 3; map++) {
            for (int key : EDGES) {
                for (int value : EDGES) {
                    HashHall hall = new HashHall();
                    due.is("3: add at first", hall.add(map, key, value), Due.NOTHING);
                    due.is("3: the key has " + value, hall.get(map, key), value);
                    due.is("3: it was there", hall.add(map, key, 5), value);
                    due.is("3: the key still has " + value, hall.get(map, key), value);
                    due.is("3: the next key", hall.add(map, key + 1, 6), Due.NOTHING);
                    hall.remove(map, key);
                    due.is("3: it has gone", hall.add(map, key, 7), Due.NOTHING);
                    due.is("3: the key has 7", hall.get(map, key), 7);
                }
            }
        }
    }

    /** 3: "else nothing is changed": in maps without an order of use, nothing at all. */
    private static void addChangesNothingElse() {
        for (int key = 1; key <= 3; key++) {
            int one = key;
            due.idle("3: add on a key of map 0", Halls::small, h -> h.add(0, one, 5), 10 * one);
            due.idle("3: add on a key of map 1", Halls::small, h -> h.add(1, one, 5), 10 * one + 1);
        }
        due.idle("3: add on the last of map 2", Halls::small, h -> h.add(2, 1, 5), 12);
    }

    /** 3: "(but its entry is used)". */
    private static void addUsesTheEntry() {
        String start = "0: 1=10 2=20 3=30 1: 3=31 1=11 2=21 2: ";
        due.leaves("3: add on the first", Halls::small, h -> h.add(2, 2, 5), 22, start + "3=32 1=12 2=22");
        due.leaves("3: add on the middle", Halls::small, h -> h.add(2, 3, 5), 32, start + "2=22 1=12 3=32");
        due.leaves("3: add of a new key", Halls::small, h -> h.add(2, 4, 5), Due.NOTHING,
            start + "2=22 3=32 1=12 4=5");
    }

    /** 3: "Likewise": NOBODY. */
    private static void addToNoMap() {
        for (int map : Halls.NO_MAPS) {
            for (Consumer<HashHall> run : Halls.beginnings()) {
                due.idle("3: a key that is there, map " + map, run, h -> h.add(map, 1, 5), Due.NOBODY);
                due.idle("3: a new key, map " + map, run, h -> h.add(map, 4, 5), Due.NOBODY);
            }
        }
    }

    /** 4: "The value of a key in a map, or NOTHING." */
    private static void getTellsTheValueOrNothing() {
        for (int map = 0; map < 3; map++) {
            int one = map;
            for (int value : EDGES) {
                HashHall hall = new HashHall();
                hall.put(map, 7, value);
                due.is("4: get of " + value, hall.get(map, 7), value);
                due.is("4: the next key below", hall.get(map, 6), Due.NOTHING);
                due.is("4: the next key above", hall.get(map, 8), Due.NOTHING);
            }
            due.idle("4: get of none", Halls::empty, h -> h.get(one, 0), Due.NOTHING);
            due.idle("4: get of no key", Halls::small, h -> h.get(one, 4), Due.NOTHING);
        }
    }

    /** 4: "NOBODY." */
    private static void getOfNoMap() {
        for (int map : Halls.NO_MAPS) {
            for (Consumer<HashHall> run : Halls.beginnings()) {
                due.idle("4: map " + map, run, h -> h.get(map, 1), Due.NOBODY);
                due.idle("4: no key, map " + map, run, h -> h.get(map, 4), Due.NOBODY);
            }
        }
    }

    /** 5: "The value of a key in a map, or other if there is none." */
    private static void giveTellsTheValueOrOther() {
        for (int map = 0; map < 3; map++) {
            int one = map;
            for (int other : EDGES) {
                due.idle("5: none, other " + other, Halls::empty, h -> h.give(one, 0, other), other);
                due.idle("5: no key, other " + other, Halls::small, h -> h.give(one, 4, other), other);
                HashHall hall = new HashHall();
                hall.put(map, 7, 0);
                due.is("5: value 0, other " + other, hall.give(map, 7, other), 0);
                hall.put(map, 7, other);
                due.is("5: value " + other, hall.give(map, 7, 5), other);
                hall.remove(map, 7);
                due.is("5: it has gone, other " + other, hall.give(map, 7, other), other);
            }
        }
    }

    /** 5: "NOBODY": and not other. */
    private static void giveOfNoMap() {
        for (int map : Halls.NO_MAPS) {
            for (Consumer<HashHall> run : Halls.beginnings()) {
                due.idle("5: map " + map, run, h -> h.give(map, 1, 5), Due.NOBODY);
                due.idle("5: no key, map " + map, run, h -> h.give(map, 4, 5), Due.NOBODY);
            }
        }
    }

    /** 6: "The entry of a key goes: its value, or NOTHING." */
    private static void removeTellsTheValueOrNothing() {
        for (int map = 0; map < 3; map++) {
            int one = map;
            for (int value : EDGES) {
                HashHall hall = new HashHall();
                hall.put(map, 7, value);
                due.is("6: the next key below", hall.remove(map, 6), Due.NOTHING);
                due.is("6: the next key above", hall.remove(map, 8), Due.NOTHING);
                due.is("6: it is still there", hall.size(map), 1);
                due.is("6: remove of " + value, hall.remove(map, 7), value);
                due.is("6: it has gone", hall.remove(map, 7), Due.NOTHING);
                due.is("6: none is left", hall.size(map), 0);
            }
            due.idle("6: of none", Halls::empty, h -> h.remove(one, 0), Due.NOTHING);
            due.idle("6: of no key", Halls::small, h -> h.remove(one, 4), Due.NOTHING);
        }
    }

    private static void removeTheOnlyEntry() {
        for (int map = 0; map < 3; map++) {
            int one = map;
            Consumer<HashHall> only = Halls.with(map, new int[] {5, 50});
            due.leaves("6: the only entry", only, h -> h.remove(one, 5), 50, "0:  1:  2: ");
            Consumer<HashHall> again = only.andThen(h -> h.remove(one, 5)).andThen(h -> h.put(one, 5, 51));
            due.is("6: and again", State.ofMap(again, map), "5=51");
        }
    }

    /** 6: "NOBODY." */
    private static void removeFromNoMap() {
        for (int map : Halls.NO_MAPS) {
            for (Consumer<HashHall> run : Halls.beginnings()) {
                due.idle("6: map " + map, run, h -> h.remove(map, 1), Due.NOBODY);
                due.idle("6: no key, map " + map, run, h -> h.remove(map, 4), Due.NOBODY);
            }
        }
    }

    /** 7: "The entry of a key goes if it has this value: whether it did". */
    private static void takeOnlyThisValue() {
        for (int map = 0; map < 3; map++) {
            int one = map;
            for (int value : EDGES) {
                Consumer<HashHall> run = Halls.with(map, new int[] {7, value, 8, 5});
                due.idle("7: one less than " + value, run, h -> Due.bit(h.take(one, 7, value - 1)), 0);
                due.idle("7: one more than " + value, run, h -> Due.bit(h.take(one, 7, value + 1)), 0);
                Consumer<HashHall> gone = run.andThen(h -> h.remove(one, 7));
                due.leaves("7: " + value, run, h -> Due.bit(h.take(one, 7, value)), 1, State.of(gone));
            }
        }
    }

    private static void takeOfNoKey() {
        for (int map = 0; map < 3; map++) {
            int one = map;
            for (int value : EDGES) {
                due.idle("7: of none", Halls::empty, h -> Due.bit(h.take(one, 0, value)), 0);
                due.idle("7: of no key", Halls::small, h -> Due.bit(h.take(one, 4, value)), 0);
            }
            Consumer<HashHall> gone = Halls.with(map, new int[] {4, 40}).andThen(h -> h.remove(one, 4));
            due.idle("7: of a key that has gone", gone, h -> Due.bit(h.take(one, 4, 40)), 0);
            due.idle("7: key and value changed round", Halls::small, h -> Due.bit(h.take(one, 10, 1)), 0);
        }
    }

    /** 7: "false if there is no such map". */
    private static void takeFromNoMap() {
        for (int map : Halls.NO_MAPS) {
            due.idle("7: of none, map " + map, Halls::empty, h -> Due.bit(h.take(map, 0, 0)), 0);
            for (int value = 10; value <= 12; value++) {
                int one = value;
                due.idle("7: map " + map, Halls::small, h -> Due.bit(h.take(map, 1, one)), 0);
            }
        }
    }

    /** 8: "Whether a key (what 0)". */
    private static void hasAKey() {
        for (int map = 0; map < 3; map++) {
            int one = map;
            for (int key : EDGES) {
                Consumer<HashHall> run = Halls.with(map, new int[] {key, 5});
                due.idle("8: none", Halls::empty, h -> Due.bit(h.has(one, 0, key)), 0);
                due.idle("8: key " + key, run, h -> Due.bit(h.has(one, 0, key)), 1);
                due.idle("8: the next below " + key, run, h -> Due.bit(h.has(one, 0, key - 1)), 0);
                due.idle("8: the next above " + key, run, h -> Due.bit(h.has(one, 0, key + 1)), 0);
                Consumer<HashHall> gone = run.andThen(h -> h.remove(one, key));
                due.idle("8: it has gone", gone, h -> Due.bit(h.has(one, 0, key)), 0);
            }
            due.idle("8: a value is no key", Halls::small, h -> Due.bit(h.has(one, 0, 10 + one)), 0);
        }
    }

    /** 8: "or a value (1) is in a map". */
    private static void hasAValue() {
        for (int map = 0; map < 3; map++) {
            int one = map;
            for (int value : EDGES) {
                Consumer<HashHall> run = Halls.with(map, new int[] {5, value});
                due.idle("8: none", Halls::empty, h -> Due.bit(h.has(one, 1, value)), 0);
                due.idle("8: value " + value, run, h -> Due.bit(h.has(one, 1, value)), 1);
                due.idle("8: the next below " + value, run, h -> Due.bit(h.has(one, 1, value - 1)), 0);
                due.idle("8: the next above " + value, run, h -> Due.bit(h.has(one, 1, value + 1)), 0);
                Consumer<HashHall> gone = run.andThen(h -> h.remove(one, 5));
                due.idle("8: it has gone", gone, h -> Due.bit(h.has(one, 1, value)), 0);
            }
            for (int key = 1; key <= 3; key++) {
                int number = key;
                due.idle("8: a key is no value", Halls::small, h -> Due.bit(h.has(one, 1, number)), 0);
                due.idle("8: each value", Halls::small, h -> Due.bit(h.has(one, 1, 10 * number + one)), 1);
            }
        }
        Consumer<HashHall> twice = Halls.with(1, new int[] {1, 5, 2, 5});
        due.idle("8: one of two has gone", twice.andThen(h -> h.remove(1, 1)), h -> Due.bit(h.has(1, 1, 5)), 1);
    }

    /** 8: "false for others": another what. */
    private static void hasAnotherWhat() {
        for (int map = 0; map < 3; map++) {
            int one = map;
            Consumer<HashHall> run = Halls.with(map, new int[] {5, 5});
            due.idle("8: what 0", run, h -> Due.bit(h.has(one, 0, 5)), 1);
            due.idle("8: what 1", run, h -> Due.bit(h.has(one, 1, 5)), 1);
            for (int what : new int[] {-1, 2, MIN, MAX}) {
                due.idle("8: what " + what, run, h -> Due.bit(h.has(one, what, 5)), 0);
            }
        }
    }

    /** 8: "false for others": another map. */
    private static void hasInNoMap() {
        Consumer<HashHall> run = h -> {
            h.put(0, 5, 5);
            h.put(1, 5, 5);
            h.put(2, 5, 5);
        };
        for (int map : Halls.NO_MAPS) {
            for (int what = -1; what <= 2; what++) {
                int kind = what;
                due.idle("8: map " + map + ", what " + what, run, h -> Due.bit(h.has(map, kind, 5)), 0);
            }
        }
    }
}
