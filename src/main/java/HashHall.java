import java.util.Arrays;

/**
 * Three maps of ints side by side: one that tells no order, one in the order in which keys came,
 * one in the order in which they were last used.
 */
public final class HashHall {
    private static final long NOTHING = 1L << 40;
    private static final long NOBODY = NOTHING + 1;
    private static final int REFUSED = -1;

    private static final int WITHOUT_ORDER = 0;
    private static final int BY_COMING = 1;
    private static final int BY_USE = 2;
    private static final int MAPS = 3;

    private static final int KEY = 0;
    private static final int VALUE = 1;

    private static final int MOST_TO_POUR = 1400;
    private static final int MOST_BEFORE_FILL = 1000;
    private static final int LONGEST_FILL = 400;

    private final Table[] tables;

    public HashHall() {
        tables = new Table[MAPS];
        for (int map = 0; map < MAPS; map++) {
            tables[map] = new Table(map == BY_USE);
        }
    }

    public long put(int map, int key, int value) {
        Table table = tableOf(map);
        return table == null ? NOBODY : table.store(key, value);
    }

    public long add(int map, int key, int value) {
        Table table = tableOf(map);
        return table == null ? NOBODY : table.storeIfNew(key, value);
    }

    public long get(int map, int key) {
        Table table = tableOf(map);
        return table == null ? NOBODY : table.lookUp(key);
    }

    public long give(int map, int key, int other) {
        Table table = tableOf(map);
        if (table == null) {
            return NOBODY;
        }
        long found = table.lookUp(key);
        return found == NOTHING ? other : found;
    }

    public long remove(int map, int key) {
        Table table = tableOf(map);
        return table == null ? NOBODY : table.dropKey(key);
    }

    public boolean take(int map, int key, int value) {
        Table table = tableOf(map);
        return table != null && table.dropPair(key, value);
    }

    public boolean has(int map, int what, int number) {
        Table table = tableOf(map);
        if (table == null) {
            return false;
        }
        if (what == KEY) {
            return table.holdsKey(number);
        }
        return what == VALUE && table.holdsValue(number);
    }

    public int size(int map) {
        Table table = tableOf(map);
        return table == null ? REFUSED : table.count;
    }

    public int clear(int map) {
        Table table = tableOf(map);
        return table == null ? REFUSED : table.dropAll();
    }

    public int pour(int from, int to) {
        Table source = tableOf(from);
        Table target = tableOf(to);
        if (source == null || target == null || from == to) {
            return REFUSED;
        }
        if (source.count + target.count > MOST_TO_POUR) {
            return REFUSED;
        }
        // New keys from the map without an order would show one in the map that they come into.
        if (from == WITHOUT_ORDER && (to != BY_COMING || !target.holdsKeysOf(source))) {
            return REFUSED;
        }
        target.storeAllOf(source);
        return target.count;
    }

    public long entry(int map, int k, int what) {
        Table table = tableOf(map);
        if (table == null || map == WITHOUT_ORDER || (what != KEY && what != VALUE)) {
            return NOBODY;
        }
        int slot = table.slotAt(k);
        if (slot == Table.NONE) {
            return NOTHING;
        }
        return what == KEY ? table.keys[slot] : table.values[slot];
    }

    public long sum(int map) {
        Table table = tableOf(map);
        return table == null ? NOBODY : table.total();
    }

    public int sweep(int map, int step, int rest) {
        Table table = tableOf(map);
        return table == null || step < 1 ? REFUSED : table.dropByRest(step, rest);
    }

    public int raise(int map, int by) {
        Table table = tableOf(map);
        return table == null ? REFUSED : table.increase(by);
    }

    public boolean same(int one, int two) {
        Table first = tableOf(one);
        Table second = tableOf(two);
        return first != null && second != null && first.matches(second);
    }

    public int fill(int map, int first, int step, int n) {
        Table table = tableOf(map);
        if (table == null || n < 1 || n > LONGEST_FILL || table.count > MOST_BEFORE_FILL) {
            return REFUSED;
        }
        for (int i = 0; i < n; i++) {
            table.store(first + i * step, i);
        }
        return table.count;
    }

    private Table tableOf(int map) {
        return map >= 0 && map < MAPS ? tables[map] : null;
    }

    /**
     * A hash table whose entries also stand in a ring, the order. Rows of ints stand in for entry
     * objects, and slots that are left are used again, so that long runs of calls make little; the
     * rows begin short, so that a run may make many halls.
     */
    private static final class Table {
        /** Slot 0 never holds an entry: it says "no slot", and it closes the ring of the order. */
        static final int NONE = 0;

        private static final int FIRST_LENGTH = 16;
        /** In 512 calls a map gets at most 1908 entries: four fills to 1400, then 508 puts. */
        private static final int LAST_LENGTH = 2048;

        private final boolean movesOnUse;
        int count;
        int[] keys;
        int[] values;
        private int[] before;
        private int[] after;
        /** By hash, the first slot of a chain; its length is a power of two. */
        private int[] heads;
        /** The next slot of the same chain, or, for a slot that was left, the next such slot. */
        private int[] chain;
        private int firstLeft;
        private int lastMade;

        Table(boolean movesOnUse) {
            this.movesOnUse = movesOnUse;
            keys = new int[FIRST_LENGTH];
            values = new int[FIRST_LENGTH];
            before = new int[FIRST_LENGTH];
            after = new int[FIRST_LENGTH];
            heads = new int[FIRST_LENGTH];
            chain = new int[FIRST_LENGTH];
        }

        long store(int key, int value) {
            int slot = slotOf(key);
            if (slot == NONE) {
                insert(key, value);
                return NOTHING;
            }
            long old = values[slot];
            values[slot] = value;
            use(slot);
            return old;
        }

        long storeIfNew(int key, int value) {
            long found = lookUp(key);
            if (found == NOTHING) {
                insert(key, value);
            }
            return found;
        }

        void storeAllOf(Table source) {
            int coming = source.count;
            int slot = source.after[NONE];
            for (int i = 0; i < coming; i++) {
                store(source.keys[slot], source.values[slot]);
                slot = source.after[slot];
            }
        }

        long lookUp(int key) {
            int slot = slotOf(key);
            if (slot == NONE) {
                return NOTHING;
            }
            use(slot);
            return values[slot];
        }

        long dropKey(int key) {
            int slot = slotOf(key);
            if (slot == NONE) {
                return NOTHING;
            }
            long old = values[slot];
            drop(slot);
            return old;
        }

        boolean dropPair(int key, int value) {
            int slot = slotOf(key);
            if (slot == NONE || values[slot] != value) {
                return false;
            }
            drop(slot);
            return true;
        }

        int dropByRest(int divisor, int rest) {
            int countBefore = count;
            int slot = after[NONE];
            for (int i = 0; i < countBefore; i++) {
                int next = after[slot];
                if (Math.floorMod(keys[slot], divisor) == rest) {
                    drop(slot);
                }
                slot = next;
            }
            return countBefore - count;
        }

        int dropAll() {
            int countBefore = count;
            Arrays.fill(heads, NONE);
            before[NONE] = NONE;
            after[NONE] = NONE;
            firstLeft = NONE;
            lastMade = NONE;
            count = 0;
            return countBefore;
        }

        boolean holdsKey(int key) {
            return slotOf(key) != NONE;
        }

        boolean holdsValue(int value) {
            int slot = after[NONE];
            for (int i = 0; i < count; i++) {
                if (values[slot] == value) {
                    return true;
                }
                slot = after[slot];
            }
            return false;
        }

        boolean holdsKeysOf(Table other) {
            int slot = other.after[NONE];
            for (int i = 0; i < other.count; i++) {
                if (!holdsKey(other.keys[slot])) {
                    return false;
                }
                slot = other.after[slot];
            }
            return true;
        }

        boolean matches(Table other) {
            if (count != other.count) {
                return false;
            }
            int slot = after[NONE];
            for (int i = 0; i < count; i++) {
                int match = other.slotOf(keys[slot]);
                if (match == NONE || other.values[match] != values[slot]) {
                    return false;
                }
                slot = after[slot];
            }
            return true;
        }

        int slotAt(int place) {
            if (place < 0 || place >= count) {
                return NONE;
            }
            int slot = after[NONE];
            for (int i = 0; i < place; i++) {
                slot = after[slot];
            }
            return slot;
        }

        long total() {
            long total = 0;
            int slot = after[NONE];
            for (int i = 0; i < count; i++) {
                total += 31L * keys[slot] + values[slot];
                slot = after[slot];
            }
            return total;
        }

        int increase(int by) {
            int slot = after[NONE];
            for (int i = 0; i < count; i++) {
                values[slot] += by;
                slot = after[slot];
            }
            return count;
        }

        private int slotOf(int key) {
            int slot = heads[headOf(key)];
            for (int i = 0; i < count && slot != NONE; i++) {
                if (keys[slot] == key) {
                    return slot;
                }
                slot = chain[slot];
            }
            return NONE;
        }

        private int headOf(int key) {
            // Keys often lie a fixed step apart, even a power of two: both halves must matter.
            int mixed = (key ^ (key >>> 16)) * 0x9E3779B9;
            return (mixed ^ (mixed >>> 16)) & (heads.length - 1);
        }

        private void insert(int key, int value) {
            if (count == keys.length - 1) {
                if (keys.length >= LAST_LENGTH) {
                    return;
                }
                grow();
            }
            int slot = freeSlot();
            keys[slot] = key;
            values[slot] = value;
            hook(slot);
            linkLast(slot);
            count++;
        }

        private void drop(int slot) {
            unhook(slot);
            unlink(slot);
            chain[slot] = firstLeft;
            firstLeft = slot;
            count--;
        }

        private void use(int slot) {
            if (movesOnUse) {
                unlink(slot);
                linkLast(slot);
            }
        }

        /** Called only when the rows have room: then a slot was left, or one is still to be made. */
        private int freeSlot() {
            if (firstLeft != NONE) {
                int slot = firstLeft;
                firstLeft = chain[slot];
                return slot;
            }
            lastMade++;
            return lastMade;
        }

        /** Called only when every slot holds an entry, so that all of them are hooked anew. */
        private void grow() {
            int length = keys.length * 2;
            keys = Arrays.copyOf(keys, length);
            values = Arrays.copyOf(values, length);
            before = Arrays.copyOf(before, length);
            after = Arrays.copyOf(after, length);
            heads = new int[length];
            chain = new int[length];
            for (int slot = 1; slot <= lastMade; slot++) {
                hook(slot);
            }
        }

        private void hook(int slot) {
            int head = headOf(keys[slot]);
            chain[slot] = heads[head];
            heads[head] = slot;
        }

        private void unhook(int slot) {
            int head = headOf(keys[slot]);
            int at = heads[head];
            if (at == slot) {
                heads[head] = chain[slot];
                return;
            }
            for (int i = 0; i < count && at != NONE; i++) {
                if (chain[at] == slot) {
                    chain[at] = chain[slot];
                    return;
                }
                at = chain[at];
            }
        }

        private void linkLast(int slot) {
            int last = before[NONE];
            after[last] = slot;
            before[slot] = last;
            after[slot] = NONE;
            before[NONE] = slot;
        }

        private void unlink(int slot) {
            after[before[slot]] = after[slot];
            before[after[slot]] = before[slot];
        }
    }
}
