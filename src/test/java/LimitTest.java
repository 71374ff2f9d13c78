/** The largest states that 512 calls can make, and calls past the 512th, which may not throw. */
public final class LimitTest {
    private static final Due due = new Due();

    public static void main(String[] args) {
        for (int map = 0; map < 3; map++) {
            fullestMap(map);
            farTooManyCalls(map);
        }
        keysThatLieAlike();
        keysThatDifferInTheSignAlone();
        manyHalls();
        due.end("LimitTest");
    }

    private static void fullestMap(int map) {
        due.is("limit: size", fullHall(map).size(map), 1907);
        due.is("limit: an early key", fullHall(map).get(map, 399 * 65536), 399);
        due.is("limit: a late key", fullHall(map).get(map, -507), 506);
        due.is("limit: one more", fullHall(map).put(map, -508, 0), Due.NOTHING);
        due.is("limit: the last entry", fullHall(map).entry(map, 1906, 0), map == 0 ? Due.NOBODY : -507);
        due.is("limit: all entries", fullHall(map).sweep(map, 1, 0), 1907);
    }

    /** As many entries as 511 calls can bring, so that one call is left to look at them. */
    private static HashHall fullHall(int map) {
        HashHall hall = new HashHall();
        hall.fill(map, 0, 65536, 400);
        hall.fill(map, 1, 65536, 400);
        hall.fill(map, 2, 65536, 200);
        hall.fill(map, 3, 65536, 400);
        for (int i = 0; i < 507; i++) {
            due.is("limit: put of a new key", hall.put(map, -1 - i, i), Due.NOTHING);
        }
        return hall;
    }

    /** What these calls answer is free; that they end and throw nothing is LANGUAGE.md's rule 7. */
    private static void farTooManyCalls(int map) {
        HashHall hall = new HashHall();
        for (int i = 0; i < 6000; i++) {
            hall.put(map, i * 7919, i);
            hall.add(map, -i, i);
            hall.get(map, i * 3);
            hall.pour(map, (map + 1) % 3);
            hall.fill((map + 2) % 3, i * 400, 1, 400);
            if (i % 1000 == 999) {
                hall.sweep(map, 3, i % 3);
            }
        }
        due.is("limit: a new hall after them", new HashHall().size(map), 0);
    }

    private static void keysThatLieAlike() {
        for (int shift = 0; shift < 32; shift++) {
            HashHall hall = new HashHall();
            int distinct = (int) Math.min(400L, 1L << (32 - shift));
            for (int map = 0; map < 3; map++) {
                due.is("limit: step 2^" + shift, hall.fill(map, 5, 1 << shift, 400), distinct);
                due.is("limit: the first key", hall.has(map, 0, 5), true);
                due.is("limit: the last key", hall.get(map, 5 + (399 << shift)), 399);
            }
        }
    }

    private static void keysThatDifferInTheSignAlone() {
        for (int map = 0; map < 3; map++) {
            HashHall hall = new HashHall();
            due.is("limit: 400 keys", hall.fill(map, 0, 1, 400), 400);
            due.is("limit: 400 more", hall.fill(map, Integer.MIN_VALUE, 1, 400), 800);
            due.is("limit: a key goes", hall.remove(map, 399), 399);
            due.is("limit: its like stays", hall.get(map, Integer.MIN_VALUE + 399), 399);
        }
    }

    private static void manyHalls() {
        HashHall last = null;
        for (int i = 0; i < 2000; i++) {
            last = new HashHall();
            last.fill(i % 3, i, 1, 1 + i % 400);
        }
        due.is("limit: the last of many halls", last.size(1999 % 3), 400);
    }
}
