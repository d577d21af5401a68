/** Promises 18 to 21: distinctSize, distinctItem, distinctOffers, distinctEstimate. */
public final class DistinctTest {
    private static final Due due = new Due();

    public static void main(String[] args) {
        sample();
        fallenOut();
        estimates();
        merged();
        wrongCalls();
        due.end("DistinctTest");
    }

    private static void items(String what, ReservoirReed x, int stream, int... want) {
        due.same("18: " + what, x.distinctSize(stream), want.length);
        for (int i = 0; i < want.length; i++) {
            due.same("19: " + what + ", place " + i, x.distinctItem(stream, i), want[i]);
        }
        due.noSuchPlace("19: " + what + ", behind the last", () -> x.distinctItem(stream, want.length));
        due.noSuchPlace("20: " + what + ", behind the last", () -> x.distinctOffers(stream, want.length));
    }

    private static void times(String what, ReservoirReed x, int stream, int... want) {
        for (int i = 0; i < want.length; i++) {
            due.same("20: " + what + ", place " + i, x.distinctOffers(stream, i), want[i]);
        }
    }

    // The hashes: 0: 1, 5: 387276918, 2: 1013904227, 4: 2027808453, 1: 2654435762, 3: 3668339988.
    private static void sample() {
        ReservoirReed x = new ReservoirReed();
        x.begin(3, 8);
        items("empty", x, 0);
        x.offer(0, 1, 1, 0, 0, 0);
        items("one", x, 0, 1);
        x.offer(0, 3, 1, 0, 0, 0);
        x.offer(0, 2, 1, 0, 0, 0);
        items("by rising hash", x, 0, 2, 1, 3);
        x.offer(0, 1, 1, 0, 0, 0);
        items("the same item again", x, 0, 2, 1, 3);
        times("the same item again", x, 0, 1, 2, 1);
        x.offer(0, 4, 1, 0, 0, 0);
        items("the greatest hash falls out", x, 0, 2, 4, 1);
        times("counts go with their items", x, 0, 1, 1, 2);
        x.offer(0, 0, 1, 0, 0, 0);
        x.offer(0, 0, 1, 0, 0, 0);
        items("item 0 has the least hash", x, 0, 0, 2, 4);
        times("counts go with their items", x, 0, 2, 1, 1);
    }

    private static void fallenOut() {
        ReservoirReed x = new ReservoirReed();
        x.begin(2, 8);
        x.offer(0, 3, 1, 0, 0, 0);
        x.offer(0, 5, 1, 0, 0, 0);
        x.offer(0, 2, 1, 0, 0, 0);
        x.offer(0, 3, 1, 0, 0, 0);
        items("what fell out stays out", x, 0, 5, 2);
        times("what fell out stays out", x, 0, 1, 1);
        x.offer(0, 2, 1, 0, 0, 0);
        times("the last place counts too", x, 0, 1, 2);
    }

    private static void estimates() {
        ReservoirReed x = new ReservoirReed();
        x.begin(3, 8);
        due.same("21: empty", x.distinctEstimate(0), 0);
        x.offer(0, 1000000, 1, 0, 0, 0);
        x.offer(0, 1000000, 1, 0, 0, 0);
        x.offer(0, 5, 1, 0, 0, 0);
        due.same("21: less than k", x.distinctEstimate(0), 2);
        x.offer(0, 0, 1, 0, 0, 0);
        long hash = 1000000L * 2654435761L % (1L << 32) + 1;
        due.same("21: as many as k", x.distinctEstimate(0), 2 * (1L << 32) / hash);
        x.offer(0, 2, 1, 0, 0, 0);
        due.same("21: more than k", x.distinctEstimate(0), 2 * (1L << 32) / 1013904227L);
        x.begin(2, 8);
        x.offer(0, 0, 1, 0, 0, 0);
        x.offer(0, 364789, 1, 0, 0, 0);
        due.same("21: the hash 1638", x.distinctEstimate(0), 2622080);
        x.offer(0, 364789, 1, 0, 0, 0);
        due.same("21: an item counts once", x.distinctEstimate(0), 2622080);
    }

    private static void merged() {
        ReservoirReed x = new ReservoirReed();
        x.begin(3, 8);
        items("both empty", x, 2);
        x.offer(0, 3, 1, 0, 0, 0);
        x.offer(0, 2, 1, 0, 0, 0);
        x.offer(0, 2, 1, 0, 0, 0);
        x.offer(1, 2, 1, 0, 0, 0);
        items("one item in both", x, 2, 2, 3);
        times("one item in both", x, 2, 3, 1);
        due.same("21: both, less than k", x.distinctEstimate(2), 2);
        x.offer(1, 5, 1, 0, 0, 0);
        x.offer(1, 4, 1, 0, 0, 0);
        items("both", x, 2, 5, 2, 4);
        times("both", x, 2, 1, 3, 1);
        due.same("21: both", x.distinctEstimate(2), 2 * (1L << 32) / 2027808453L);
        items("stream 0 is as it was", x, 0, 2, 3);
        times("stream 0 is as it was", x, 0, 2, 1);
        items("stream 1 is as it was", x, 1, 5, 2, 4);
        x.clear(0);
        times("both, one of them empty", x, 2, 1, 1, 1);
    }

    private static void wrongCalls() {
        ReservoirReed x = new ReservoirReed();
        x.offer(0, 1, 1, 0, 0, 0);
        for (int wrong : new int[] {-1, 3, Integer.MAX_VALUE, Integer.MIN_VALUE}) {
            due.illegalArgument("18: stream", () -> x.distinctSize(wrong));
            due.illegalArgument("19: stream before place", () -> x.distinctItem(wrong, -1));
            due.illegalArgument("20: stream before place", () -> x.distinctOffers(wrong, 9));
            due.illegalArgument("21: stream", () -> x.distinctEstimate(wrong));
            due.noSuchPlace("19: place", () -> x.distinctItem(0, wrong));
            due.noSuchPlace("20: place", () -> x.distinctOffers(2, wrong));
        }
    }
}
