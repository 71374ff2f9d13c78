import java.util.ArrayList;
import java.util.HashMap;
import java.util.LinkedHashMap;
import java.util.List;
import java.util.Map;

/**
 * Long runs of calls, chosen by a fixed rule, on a hall and on maps of the Java library side by
 * side: every answer must be the same, and so must what the last of the 512 calls see of the state.
 */
public final class ModelTest {
    private static final int RUNS = 1500;
    private static final int CALLS = 432;
    private static final int LAST_LOOKS = 80;

    private static final Due due = new Due();

    public static void main(String[] args) {
        for (int run = 0; run < RUNS; run++) {
            new Run(run).go();
        }
        due.end("ModelTest");
    }

    private static final class Run {
        private final int number;
        private final HashHall hall = new HashHall();
        private final Model model = new Model();
        private long state;

        Run(int number) {
            this.number = number;
            state = number * 7919L + 17;
        }

        void go() {
            for (int call = 0; call < CALLS; call++) {
                call();
            }
            for (int look = 0; look < LAST_LOOKS; look++) {
                lookAtTheEnd(look);
            }
        }

        private int below(int bound) {
            state = state * 6364136223846793005L + 1442695040888963407L;
            return (int) ((state >>> 33) % bound);
        }

        private int map() {
            return below(40) == 0 ? below(5) - 1 : below(3);
        }

        /** Some runs have few keys, some have many, some have keys that lie far apart. */
        private int number() {
            switch (number % 4) {
                case 0: return below(8) - 2;
                case 1: return below(500);
                case 2: return below(64) * 65537 - (below(2) << 31);
                default: return below(3) == 0 ? Integer.MAX_VALUE - below(3) : below(40) - 20;
            }
        }

        private void call() {
            int map = map();
            int a = number();
            int b = number();
            switch (below(24)) {
                case 0: case 1: case 2: {
                    check("put", hall.put(map, a, b), model.put(map, a, b), map, a, b);
                    break;
                }
                case 3: case 4: {
                    check("add", hall.add(map, a, b), model.add(map, a, b), map, a, b);
                    break;
                }
                case 5: case 6: {
                    check("get", hall.get(map, a), model.get(map, a), map, a);
                    break;
                }
                case 7: {
                    check("give", hall.give(map, a, b), model.give(map, a, b), map, a, b);
                    break;
                }
                case 8: case 9: {
                    check("remove", hall.remove(map, a), model.remove(map, a), map, a);
                    break;
                }
                case 10: case 11: {
                    int c = below(2) == 0 ? b : (int) model.peek(map, a);
                    check("take", bit(hall.take(map, a, c)), bit(model.take(map, a, c)), map, a, c);
                    break;
                }
                case 12: {
                    int what = below(10) == 0 ? 2 : below(2);
                    check("has", bit(hall.has(map, what, a)), bit(model.has(map, what, a)), map, what, a);
                    break;
                }
                case 13: {
                    check("size", hall.size(map), model.size(map), map);
                    break;
                }
                case 14: {
                    if (below(8) == 0) {
                        check("clear", hall.clear(map), model.clear(map), map);
                    }
                    break;
                }
                case 15: case 16: {
                    int to = map();
                    check("pour", hall.pour(map, to), model.pour(map, to), map, to);
                    break;
                }
                case 17: case 18: {
                    int k = below(Math.max(1, model.size(map)) + 2) - 1;
                    int what = below(20) - 18 > 0 ? 2 : below(2);
                    check("entry", hall.entry(map, k, what), model.entry(map, k, what), map, k, what);
                    break;
                }
                case 19: {
                    check("sum", hall.sum(map), model.sum(map), map);
                    break;
                }
                case 20: {
                    int step = below(9) - 1;
                    int rest = below(9) - 1;
                    check("sweep", hall.sweep(map, step, rest), model.sweep(map, step, rest), map, step, rest);
                    break;
                }
                case 21: {
                    check("raise", hall.raise(map, a), model.raise(map, a), map, a);
                    break;
                }
                case 22: {
                    int two = map();
                    check("same", bit(hall.same(map, two)), bit(model.same(map, two)), map, two);
                    break;
                }
                default: {
                    int n = number % 8 < 4 ? below(8) : below(405);
                    check("fill", hall.fill(map, a, b, n), model.fill(map, a, b, n), map, a, b, n);
                }
            }
        }

        /** Looks that use no entry, so that one does not hide what the next would see. */
        private void lookAtTheEnd(int look) {
            int map = look % 3;
            int size = model.size(map);
            if (look < 3) {
                check("size at the end", hall.size(map), size, map);
            } else if (look < 6) {
                check("sum at the end", hall.sum(map), model.sum(map), map);
            } else if (size > 0) {
                int k = below(size);
                int key = model.keys(map).get(k);
                if (map == 0) {
                    check("get at the end", hall.get(map, key), model.get(map, key), map, key);
                } else {
                    int what = below(2);
                    check("entry at the end", hall.entry(map, k, what), model.entry(map, k, what), map, k, what);
                }
            }
        }

        private void check(String name, long got, long want, int... arguments) {
            if (got != want) {
                due.is("run " + number + ": " + name + java.util.Arrays.toString(arguments), got, want);
            } else {
                due.is(name, got, want);
            }
        }

        private static long bit(boolean answer) {
            return answer ? 1 : 0;
        }
    }

    /** The document's words, over the library's maps. */
    private static final class Model {
        private final List<Map<Integer, Integer>> maps = new ArrayList<>();

        Model() {
            maps.add(new HashMap<>());
            maps.add(new LinkedHashMap<>());
            maps.add(new LinkedHashMap<>(16, 0.75f, true));
        }

        private boolean lacks(int map) {
            return map < 0 || map > 2;
        }

        private static long told(Integer value) {
            return value == null ? Due.NOTHING : value;
        }

        long put(int map, int key, int value) {
            return lacks(map) ? Due.NOBODY : told(maps.get(map).put(key, value));
        }

        long add(int map, int key, int value) {
            return lacks(map) ? Due.NOBODY : told(maps.get(map).putIfAbsent(key, value));
        }

        long get(int map, int key) {
            return lacks(map) ? Due.NOBODY : told(maps.get(map).get(key));
        }

        long give(int map, int key, int other) {
            return lacks(map) ? Due.NOBODY : maps.get(map).getOrDefault(key, other);
        }

        /** The value of a key without using it; 0 if there is none. */
        long peek(int map, int key) {
            if (!lacks(map)) {
                for (Map.Entry<Integer, Integer> entry : maps.get(map).entrySet()) {
                    if (entry.getKey() == key) {
                        return entry.getValue();
                    }
                }
            }
            return 0;
        }

        long remove(int map, int key) {
            return lacks(map) ? Due.NOBODY : told(maps.get(map).remove(key));
        }

        boolean take(int map, int key, int value) {
            return !lacks(map) && maps.get(map).remove(key, value);
        }

        boolean has(int map, int what, int number) {
            if (lacks(map)) {
                return false;
            }
            return what == 0 && maps.get(map).containsKey(number)
                || what == 1 && maps.get(map).containsValue(number);
        }

        int size(int map) {
            return lacks(map) ? -1 : maps.get(map).size();
        }

        int clear(int map) {
            int size = size(map);
            if (size >= 0) {
                maps.get(map).clear();
            }
            return size;
        }

        int pour(int from, int to) {
            if (lacks(from) || lacks(to) || from == to || size(from) + size(to) > 1400) {
                return -1;
            }
            if (from == 0 && to == 2) {
                return -1;
            }
            if (from == 0 && to == 1 && !maps.get(1).keySet().containsAll(maps.get(0).keySet())) {
                return -1;
            }
            maps.get(to).putAll(maps.get(from));
            return size(to);
        }

        List<Integer> keys(int map) {
            return new ArrayList<>(maps.get(map).keySet());
        }

        long entry(int map, int k, int what) {
            if (lacks(map) || map == 0 || what < 0 || what > 1) {
                return Due.NOBODY;
            }
            if (k < 0 || k >= size(map)) {
                return Due.NOTHING;
            }
            return what == 0 ? keys(map).get(k) : new ArrayList<>(maps.get(map).values()).get(k);
        }

        long sum(int map) {
            if (lacks(map)) {
                return Due.NOBODY;
            }
            long[] sum = {0};
            maps.get(map).forEach((key, value) -> sum[0] += key * 31L + value);
            return sum[0];
        }

        int sweep(int map, int step, int rest) {
            if (lacks(map) || step < 1) {
                return -1;
            }
            int size = size(map);
            maps.get(map).keySet().removeIf(key -> ((key % step) + step) % step == rest);
            return size - size(map);
        }

        int raise(int map, int by) {
            if (lacks(map)) {
                return -1;
            }
            maps.get(map).replaceAll((key, value) -> value + by);
            return size(map);
        }

        boolean same(int one, int two) {
            return !lacks(one) && !lacks(two)
                && new HashMap<>(maps.get(one)).equals(new HashMap<>(maps.get(two)));
        }

        int fill(int map, int first, int step, int n) {
            if (lacks(map) || n < 1 || n > 400 || size(map) > 1000) {
                return -1;
            }
            int key = first;
            for (int i = 0; i < n; i++) {
                maps.get(map).put(key, i);
                key += step;
            }
            return size(map);
        }
    }
}
