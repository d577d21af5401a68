import java.util.Arrays;
import java.util.Comparator;
import java.util.List;
import java.util.stream.IntStream;

/** The edges of the distinct sample, and of promises 18 to 21. */
final class DistinctEdges extends Edges {
    // All items by rising hash.
    private final int[] byHash = IntStream.rangeClosed(0, 1000000).boxed()
        .sorted(Comparator.comparingLong(DistinctEdges::hash)).mapToInt(Integer::intValue).toArray();

    DistinctEdges(Due due, Document document) {
        super(due, document);
    }

    // A product modulo 2^32 is the lower half of the product of ints.
    private static long hash(int item) {
        return Integer.toUnsignedLong(item * (int) 2654435761L) + 1;
    }

    @Override
    List<Runnable> tests() {
        return List.of(
            this::hashesOrderItems,
            this::hashesAreTheDocuments,
            this::leastHashes,
            this::repeatedItems,
            this::noTwoHashesAreTheSame,
            this::sampleSize,
            this::sampleItems,
            this::sampleOffers,
            this::estimatesBelowK,
            this::estimatesAtKAndBeyond,
            this::greatestAndLeastEstimates);
    }

    private void order(String what, ReservoirReed x, int stream, int... items) {
        due.same(what + ", distinctSize", x.distinctSize(stream), items.length);
        for (int i = 0; i < items.length; i++) {
            due.same(what + ", place " + i, x.distinctItem(stream, i), items[i]);
        }
        due.noSuchPlace(what + ", distinctItem", () -> x.distinctItem(stream, items.length));
        due.noSuchPlace(what + ", distinctOffers", () -> x.distinctOffers(stream, items.length));
    }

    private void hashesOrderItems() {
        terms("19 and 21", "The hash of an item is the remainder of item * 2654435761 divided by 2^32, plus 1.");
        for (int i = 0; i + 1 < byHash.length; i += i < 100 || i > byHash.length - 100 ? 1 : 997) {
            ReservoirReed x = begun(2, 8);
            x.offer(0, byHash[i + 1], 1, 0, 0, 0);
            x.offer(1, byHash[i], 1, 0, 0, 0);
            due.same("the lesser of two hashes next to one another", x.distinctItem(2, 0), byHash[i]);
        }
        ReservoirReed y = begun(4, 8);
        y.offer(0, 1000000, 1, 0, 0, 0);
        y.offer(0, 1, 1, 0, 0, 0);
        y.offer(0, 2, 1, 0, 0, 0);
        y.offer(0, 0, 1, 0, 0, 0);
        order("1, 1013904227, 2654435762, 4238151233", y, 0, 0, 2, 1, 1000000);
    }

    // With k = 2 the estimate is 2^32 divided by the greater of two hashes.
    private void hashesAreTheDocuments() {
        due.same("hash of item 364789", of(0, 364789), 4294967296L / 1638);
        due.same("hash of item 729578", of(0, 729578), 4294967296L / 3275);
        due.same("hash of item 314240", of(0, 314240), 4294967296L / 13185);
        due.same("hash of item 263691", of(0, 263691), 4294967296L / 24732);
        due.same("hash of item 213142", of(0, 213142), 4294967296L / 36279);
    }

    private static long of(int item, int other) {
        ReservoirReed x = begun(2, 8);
        x.offer(0, item, 1, 0, 0, 0);
        x.offer(0, other, 1, 0, 0, 0);
        return x.distinctEstimate(0);
    }

    private void leastHashes() {
        terms("18 and 19", "The distinct sample has the k items with the least hashes among all different items that were "
            + "offered, or all of them if there are fewer; it is ordered by rising hash.");
        for (int k = 2; k <= 16; k++) {
            for (int count : new int[] {0, 1, k - 1, k, k + 1, k + 2, 300}) {
                int[] sample = Arrays.copyOf(byHash, Math.min(k, count));
                ReservoirReed rising = begun(k, 8);
                ReservoirReed falling = begun(k, 8);
                ReservoirReed both = begun(k, 8);
                for (int i = 0; i < count; i++) {
                    rising.offer(0, byHash[i], 1, 0, 0, 0);
                    falling.offer(1, byHash[count - 1 - i], 1, 0, 0, 0);
                    both.offer(i % 2, byHash[i], 1, 0, 0, 0);
                }
                order("rising hashes, " + count + " items, k = " + k, rising, 0, sample);
                order("falling hashes, " + count + " items, k = " + k, falling, 1, sample);
                order("two streams, " + count + " items, k = " + k, both, 2, sample);
            }
        }
        betweenTwo();
    }

    private void betweenTwo() {
        ReservoirReed x = begun(3, 8);
        x.offer(0, byHash[10], 1, 0, 0, 0);
        x.offer(0, byHash[30], 1, 0, 0, 0);
        x.offer(0, byHash[50], 1, 0, 0, 0);
        x.offer(0, byHash[51], 1, 0, 0, 0);
        order("greater than the last", x, 0, byHash[10], byHash[30], byHash[50]);
        x.offer(0, byHash[49], 1, 0, 0, 0);
        order("a little less than the last", x, 0, byHash[10], byHash[30], byHash[49]);
        x.offer(0, byHash[20], 1, 0, 0, 0);
        order("between", x, 0, byHash[10], byHash[20], byHash[30]);
        x.offer(0, byHash[9], 1, 0, 0, 0);
        order("less than the first", x, 0, byHash[9], byHash[10], byHash[20]);
        x.offer(0, byHash[49], 1, 0, 0, 0);
        order("one that fell out comes again", x, 0, byHash[9], byHash[10], byHash[20]);
    }

    private void repeatedItems() {
        for (int k = 2; k <= 16; k++) {
            ReservoirReed x = begun(k, 8);
            for (int i = 0; i < 300; i++) {
                x.offer(0, byHash[i % (k - 1)], 1, 0, 0, 0);
            }
            order("k - 1 items in 300 offers, k = " + k, x, 0, Arrays.copyOf(byHash, k - 1));
            x.offer(1, byHash[k - 1], 1, 0, 0, 0);
            x.offer(1, byHash[0], 1, 0, 0, 0);
            order("one more in stream 1, k = " + k, x, 2, Arrays.copyOf(byHash, k));
            x.offer(1, byHash[k], 1, 0, 0, 0);
            order("one more beyond k, k = " + k, x, 2, Arrays.copyOf(byHash, k));
        }
    }

    private void noTwoHashesAreTheSame() {
        terms("18 to 20", "No two items have the same hash.");
        int same = 0;
        for (int i = 0; i + 1 < byHash.length; i++) {
            same += hash(byHash[i]) == hash(byHash[i + 1]) ? 1 : 0;
        }
        due.same("pairs of the same hash", same, 0);
        ReservoirReed x = begun(16, 8);
        for (int i = 0; i < 16; i++) {
            x.offer(0, byHash[byHash.length - 1 - i], 1, 0, 0, 0);
        }
        due.same("different items are never taken for one", x.distinctSize(0), 16);
    }

    // ---- promises 18 to 21

    private void sampleSize() {
        promise(18, "Returns how many items the distinct sample has.");
        for (int k = 2; k <= 16; k++) {
            ReservoirReed x = begun(k, 8);
            for (int i = 0; i <= k + 1; i++) {
                due.same("behind " + i + " items, k = " + k, x.distinctSize(1), Math.min(i, k));
                x.offer(1, i, 1, 0, 0, 0);
                x.offer(1, i, 1, 0, 0, 0);
            }
        }
        promise(18, "Returns the number.");
        for (int k = 2; k <= 16; k++) {
            ReservoirReed x = begun(k, 8);
            x.offer(0, 0, 1, 0, 0, 0);
            for (int i = 0; i <= k + 1; i++) {
                x.offer(1, i, 1, 0, 0, 0);
                due.same(i + 1 + " items, one in both, k = " + k, x.distinctSize(2), Math.min(i + 1, k));
                due.same("one item, k = " + k, x.distinctSize(0), 1);
            }
        }
    }

    private void sampleItems() {
        promise(19, "Returns an item of the distinct sample.");
        ReservoirReed x = begun(2, 8);
        x.offer(0, 3, 1, 0, 0, 0);
        due.same("the only one", x.distinctItem(0, 0), 3);
        promise(19, "place: 0 for the item with the least hash");
        x.offer(0, 5, 1, 0, 0, 0);
        due.same("place 0", x.distinctItem(0, 0), 5);
        due.same("place 1", x.distinctItem(0, 1), 3);
        x.offer(1, 2, 1, 0, 0, 0);
        due.same("place 1 of both", x.distinctItem(2, 1), 2);
        promise(19, "Returns the item.");
        x.offer(0, 0, 1, 0, 0, 0);
        due.same("the least item", x.distinctItem(0, 0), 0);
        x.offer(1, 1000000, 1, 0, 0, 0);
        due.same("the greatest item", x.distinctItem(1, 1), 1000000);
    }

    private void sampleOffers() {
        promise(20, "Returns how often an item of the distinct sample has been offered.");
        ReservoirReed x = begun(2, 8);
        x.offer(0, 3, 1, 0, 0, 0);
        x.offer(0, 5, 1, 0, 0, 0);
        x.offer(0, 3, 1, 0, 0, 0);
        due.same("place 1, just full", x.distinctOffers(0, 1), 2);
        promise(20, "place: 0 for the item with the least hash");
        due.same("place 0", x.distinctOffers(0, 0), 1);
        x.offer(0, 2, 1, 0, 0, 0);
        due.same("another at place 1", x.distinctOffers(0, 1), 1);
        x.offer(0, 0, 1, 0, 0, 0);
        x.offer(0, 5, 1, 0, 0, 0);
        due.same("the count goes with its item", x.distinctOffers(0, 1), 2);
        promise(20, "Returns the number of its offers.");
        ReservoirReed y = begun(2, 8);
        for (int i = 1; i <= 300; i++) {
            y.offer(0, 7, 1, 0, 0, 0);
        }
        due.same("the greatest of a stream", y.distinctOffers(0, 0), 300);
        due.same("both, not in stream 1", y.distinctOffers(2, 0), 300);
        y.offer(1, 0, 1, 0, 0, 0);
        for (int i = 1; i <= 200; i++) {
            y.offer(1, 7, 1, 0, 0, 0);
        }
        due.same("of both", y.distinctOffers(2, 1), 500);
        due.same("item 0, in stream 1 alone", y.distinctOffers(2, 0), 1);
        due.same("each by itself", y.distinctOffers(1, 1), 200);
        due.same("each by itself", y.distinctOffers(0, 0), 300);
    }

    private void estimatesBelowK() {
        promise(21, "Estimates how many different items have been offered.");
        ReservoirReed x = begun(3, 8);
        due.same("none", x.distinctEstimate(2), 0);
        x.offer(0, 0, 1, 0, 0, 0);
        x.offer(0, 0, 1, 0, 0, 0);
        due.same("one item", x.distinctEstimate(0), 1);
        promise(21, "Returns the size of the distinct sample if that is less than k; otherwise (k - 1) * 2^32 divided by "
            + "the greatest hash in the sample, rounded down.");
        for (int k = 2; k <= 16; k++) {
            for (int items = 0; items < k; items++) {
                ReservoirReed y = begun(k, 8);
                for (int i = 0; i < items; i++) {
                    y.offer(0, byHash[i], 1, 0, 0, 0);
                    y.offer(1, byHash[items - 1 - i], 1, 0, 0, 0);
                }
                for (int stream = 0; stream <= 2; stream++) {
                    due.same(items + " items, k = " + k, y.distinctEstimate(stream), items);
                }
            }
        }
    }

    private void estimatesAtKAndBeyond() {
        for (int k = 2; k <= 16; k++) {
            for (int last : new int[] {k - 1, k, 100, 5000, 700000, 1000000}) {
                ReservoirReed x = begun(k, 8);
                for (int i = 0; i < k - 1; i++) {
                    x.offer(i % 2, byHash[i], 1, 0, 0, 0);
                    x.offer(1, byHash[i], 1, 0, 0, 0);
                }
                due.same("k - 1 items in both, k = " + k, x.distinctEstimate(2), k - 1);
                x.offer(1, byHash[last], 1, 0, 0, 0);
                long estimate = ((k - 1L) << 32) / hash(byHash[last]);
                due.same("k items, k = " + k, x.distinctEstimate(1), estimate);
                due.same("k items in both, k = " + k, x.distinctEstimate(2), estimate);
                due.same("fewer in stream 0, k = " + k, x.distinctEstimate(0), k / 2);
                x.offer(0, byHash[Math.min(last + 1, 1000000)], 1, 0, 0, 0);
                due.same("one beyond, k = " + k, x.distinctEstimate(2), estimate);
            }
        }
    }

    private void greatestAndLeastEstimates() {
        due.same("two least hashes", of(364789, 0), 2622080);
        due.same("two greatest hashes: 1.000002 rounded down", of(780127, 415338), 1);
        ReservoirReed x = begun(3, 8);
        x.offer(0, 729578, 1, 0, 0, 0);
        x.offer(1, 0, 1, 0, 0, 0);
        x.offer(1, 364789, 1, 0, 0, 0);
        due.same("three least hashes, the greatest estimate", x.distinctEstimate(2), 2622880);
        for (int k = 2; k <= 16; k++) {
            ReservoirReed y = begun(k, 8);
            for (int i = 0; i < k; i++) {
                y.offer(0, byHash[1000000 - i], 1, 0, 0, 0);
            }
            due.same("the greatest hashes, k = " + k, y.distinctEstimate(0), k - 1);
        }
    }
}
