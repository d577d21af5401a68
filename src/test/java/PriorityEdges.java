import java.util.List;

/** The edges of the priority sample, and of promises 12 to 17. */
final class PriorityEdges extends Edges {
    private static final long GREATEST = 1000000L << 31;

    PriorityEdges(Due due, Document document) {
        super(due, document);
    }

    @Override
    List<Runnable> tests() {
        return List.of(
            this::priorityIsAFraction,
            this::nearlyEqualFractions,
            this::fallingPriorityRisingPosition,
            this::equalInBothStreams,
            this::firstOffersOfTheOrder,
            this::thresholdNeedsMoreThanKOffers,
            this::thresholdBehindMoreOffers,
            this::thresholdOfBothStreams,
            this::thresholdIsThePriorityAtPlaceKPlus1,
            this::thresholdIsRoundedDown,
            this::estimatedWeightIsTheGreater,
            this::sampleSize,
            this::sampleItems,
            this::estimatedWeights,
            this::thresholds,
            this::estimates,
            this::sampledWeights);
    }

    private void order(String what, ReservoirReed x, int stream, int... items) {
        due.same(what + ", prioritySize", x.prioritySize(stream), items.length);
        for (int i = 0; i < items.length; i++) {
            due.same(what + ", place " + i, x.priorityItem(stream, i), items[i]);
        }
    }

    // The greater one goes first, whichever is offered first, and in whichever stream.
    private void inFront(String what, int weight, int die, int lesserWeight, int lesserDie) {
        ReservoirReed x = begun(2, 8);
        x.offer(0, 1, weight, 0, die, 0);
        x.offer(0, 2, lesserWeight, 0, lesserDie, 0);
        order(what + ", offered first", x, 0, 1, 2);
        ReservoirReed y = begun(2, 8);
        y.offer(0, 2, lesserWeight, 0, lesserDie, 0);
        y.offer(0, 1, weight, 0, die, 0);
        order(what + ", offered later", y, 0, 1, 2);
        ReservoirReed z = begun(2, 8);
        z.offer(0, 2, lesserWeight, 0, lesserDie, 0);
        z.offer(1, 1, weight, 0, die, 0);
        order(what + ", in stream 1", z, 2, 1, 2);
    }

    private void equal(String what, int weight, int die, int otherWeight, int otherDie) {
        for (int asked = 0; asked <= 2; asked += 2) {
            ReservoirReed x = begun(2, 8);
            x.offer(0, 1, weight, 0, die, 0);
            x.offer(asked / 2, 2, otherWeight, 0, otherDie, 0);
            order(what, x, asked, 1, 2);
            ReservoirReed y = begun(2, 8);
            y.offer(0, 2, otherWeight, 0, otherDie, 0);
            y.offer(asked / 2, 1, weight, 0, die, 0);
            order(what + ", the other way round", y, asked, 2, 1);
        }
    }

    private void priorityIsAFraction() {
        terms("13 to 17", "The priority of an offer is the fraction weight / (first die + 1).");
        inFront("1 before 1/2", 1, 0, 1, 1);
        inFront("2 before 1", 2, 0, 1, 0);
        inFront("2/3 before 1/2", 2, 2, 1, 1);
        inFront("1/2 before 2/5", 1, 1, 2, 4);
        inFront("the greatest before the next", 1000000, 0, 999999, 0);
        inFront("the last but one before the least", 1, MOST - 1, 1, MOST);
        inFront("2 / 2^31 before the least", 2, MOST, 1, MOST);
        inFront("the greatest before the least", 1000000, 0, 1, MOST);
        inFront("1/2 before 1000000 / 2^31", 1, 1, 1000000, MOST);
        inFront("the greatest weight at the greatest die", 1000000, MOST, 1, 2147);
        inFront("1 / 2147 before the greatest weight at the greatest die", 1, 2146, 1000000, MOST);
        equal("1/1 and 2/2", 1, 0, 2, 1);
        equal("1/2 and 1000000 / 2000000", 1, 1, 1000000, 1999999);
        equal("1/2^31", 1, MOST, 1, MOST);
        equal("1 / 2^30 and 2 / 2^31", 1, (1 << 30) - 1, 2, MOST);
        equal("1 and 1000000 / 1000000", 1, 0, 1000000, 999999);
    }

    // Each pair's cross products differ by 1 alone; times 2^31 and rounded they are often the same.
    private void nearlyEqualFractions() {
        inFront("999999 / 2^31 before 272695 / 585608639", 999999, MOST, 272695, 585608638);
        inFront("727304 / 1561875009 before 999999 / 2^31", 727304, 1561875008, 999999, MOST);
        inFront("999997 / 2^31 before 729853 / 1567352085", 999997, MOST, 729853, 1567352084);
        inFront("270144 / 580131563 before 999997 / 2^31", 270144, 580131562, 999997, MOST);
        inFront("1 / 1000 before 1 / 1001", 1, 999, 1, 1000);
        inFront("999999 / 1000000 before 999998 / 999999", 999999, 999999, 999998, 999998);
    }

    private void fallingPriorityRisingPosition() {
        terms("13", "Offers are ordered by falling priority, of equal priority by rising position (in stream 2 those of "
            + "stream 0 come first).");
        ReservoirReed x = begun(16, 8);
        for (int i = 1; i <= 16; i++) {
            x.offer(0, i, 1 + i % 4, 0, 0, 0);
        }
        order("four of each", x, 0, 3, 7, 11, 15, 2, 6, 10, 14, 1, 5, 9, 13, 4, 8, 12, 16);
        for (int k = 2; k <= 16; k++) {
            ReservoirReed y = begun(k, 8);
            for (int i = 1; i <= 300; i++) {
                y.offer(0, i, i, 0, i - 1, 0);
            }
            for (int place = 0; place < k; place++) {
                due.same("300 equal ones, k = " + k, y.priorityItem(0, place), place + 1);
            }
        }
    }

    private void equalInBothStreams() {
        ReservoirReed x = begun(3, 8);
        for (int i = 1; i <= 5; i++) {
            x.offer(1, 10 + i, 1, 0, 0, 0);
        }
        order("only stream 1", x, 2, 11, 12, 13);
        x.offer(0, 1, 2, 0, 1, 0);
        order("one of stream 0, offered later", x, 2, 1, 11, 12);
        x.offer(0, 2, 3, 0, 2, 0);
        x.offer(1, 16, 5, 0, 4, 0);
        order("two of stream 0", x, 2, 1, 2, 11);
        x.offer(0, 3, 4, 0, 3, 0);
        order("three of stream 0", x, 2, 1, 2, 3);
        x.offer(1, 17, 2, 0, 0, 0);
        order("a greater one of stream 1", x, 2, 17, 1, 2);
        order("stream 1 by itself", x, 1, 17, 11, 12);
    }

    private void firstOffersOfTheOrder() {
        terms("12 to 14", "The priority sample has the first k offers of that order, or all of them if there are fewer.");
        for (int k = 2; k <= 16; k++) {
            for (int count : new int[] {0, 1, k - 1, k, k + 1, k + 2, 300}) {
                rising(k, count);
                falling(k, count);
            }
        }
    }

    private void rising(int k, int count) {
        ReservoirReed x = begun(k, 8);
        for (int i = 1; i <= count; i++) {
            x.offer(0, i, i, 0, 0, 0);
        }
        sampled("rising weights", x, k, count, count, -1);
    }

    private void falling(int k, int count) {
        ReservoirReed x = begun(k, 8);
        for (int i = 1; i <= count; i++) {
            x.offer(0, i, 1, 0, i, 0);
        }
        sampled("rising dice", x, k, count, 1, 1);
    }

    private void sampled(String kind, ReservoirReed x, int k, int count, int first, int step) {
        int size = Math.min(k, count);
        for (int stream = 0; stream <= 2; stream += 2) {
            int asked = stream;
            String what = kind + ", " + count + " offers, k = " + k + ", stream " + stream;
            due.same("prioritySize, " + what, x.prioritySize(stream), size);
            for (int place = 0; place < size; place++) {
                due.same("priorityItem, " + what, x.priorityItem(stream, place), first + step * place);
            }
            due.noSuchPlace("priorityItem, " + what, () -> x.priorityItem(asked, size));
            due.noSuchPlace("estimatedWeight, " + what, () -> x.estimatedWeight(asked, size));
        }
    }

    private void thresholdNeedsMoreThanKOffers() {
        terms("15", "The threshold is 0 if there are at most k offers; otherwise it is the priority of the offer at place "
            + "k + 1 of the order, times 2^31, rounded down to a whole number.");
        for (int k = 2; k <= 16; k++) {
            for (int stream = 0; stream <= 1; stream++) {
                ReservoirReed x = begun(k, 8);
                for (int i = 1; i <= k; i++) {
                    due.same("fewer than k offers, k = " + k, x.threshold(stream), 0);
                    x.offer(stream, i, 1000000, 0, 0, 0);
                }
                due.same("k offers, k = " + k, x.threshold(stream), 0);
                due.same("k offers in both, k = " + k, x.threshold(2), 0);
                x.offer(stream, k + 1, 1, 0, MOST, 0);
                due.same("k + 1 offers, k = " + k, x.threshold(stream), 1);
                due.same("k + 1 offers in both, k = " + k, x.threshold(2), 1);
                due.same("the other stream, k = " + k, x.threshold(1 - stream), 0);
                x.clear(stream);
                due.same("behind clear, k = " + k, x.threshold(stream), 0);
            }
        }
    }

    // Nothing of the longer stream before may be left in the threshold.
    private void thresholdBehindMoreOffers() {
        for (int k = 2; k <= 16; k++) {
            ReservoirReed x = begun(k, 8);
            for (int again = 0; again < 3; again++) {
                for (int i = 1; i <= k; i++) {
                    x.offer(again % 2, i, 5, 0, 0, 0);
                }
                due.same("k offers again, k = " + k, x.threshold(again % 2), 0);
                due.same("k offers again in both, k = " + k, x.threshold(2), 0);
                due.same("estimatedWeight, k = " + k, x.estimatedWeight(2, k - 1), 5);
                x.offer(again % 2, 99, 3, 0, 0, 0);
                x.offer(again % 2, 99, 4, 0, 0, 0);
                due.same("k + 2 offers again, k = " + k, x.threshold(again % 2), 4L << 31);
                due.same("k + 2 offers again in both, k = " + k, x.threshold(2), 4L << 31);
                x.clear(again % 2);
            }
            x.offer(0, 1, 5, 0, 0, 0);
            x.begin(k, 8);
            for (int i = 1; i <= k; i++) {
                x.offer(0, i, 5, 0, 0, 0);
            }
            due.same("k offers behind begin, k = " + k, x.threshold(0), 0);
        }
    }

    private void thresholdOfBothStreams() {
        for (int k = 2; k <= 16; k++) {
            for (int inFirst = 0; inFirst <= k; inFirst++) {
                ReservoirReed x = begun(k, 8);
                for (int i = 1; i <= k; i++) {
                    x.offer(i <= inFirst ? 0 : 1, i, 10 + i, 0, 0, 0);
                }
                String what = inFirst + " of stream 0, k = " + k;
                due.same("k offers, " + what, x.threshold(2), 0);
                x.offer(k % 2, 99, 12, 0, 0, 0);
                due.same("k + 1 offers, " + what, x.threshold(2), 11L << 31);
                due.same("k + 1 offers, sample, " + what, x.estimatedWeight(2, k - 1), 11L << 31);
            }
        }
    }

    // The offers come neither by rising nor by falling priority.
    private void thresholdIsThePriorityAtPlaceKPlus1() {
        int[] weights = {40, 90, 10, 70, 20, 100, 60, 30, 80, 50};
        int[] thresholds = {0, 0, 10, 40, 40, 70, 70, 70, 80, 80};
        for (int stream = 0; stream <= 2; stream++) {
            ReservoirReed x = begun(2, 8);
            for (int i = 0; i < weights.length; i++) {
                x.offer(stream == 2 ? i % 2 : stream, i, weights[i], 0, 1, 0);
                due.same("behind offer " + (i + 1), x.threshold(stream), (long) thresholds[i] << 30);
            }
        }
        ReservoirReed y = begun(2, 8);
        for (int i = 1; i <= 3; i++) {
            y.offer(0, i, 6, 0, 1, 0);
        }
        due.same("all equal", y.threshold(0), 6L << 30);
        order("all equal", y, 0, 1, 2);
    }

    private void rounded(int weight, int die, long threshold) {
        ReservoirReed x = begun(2, 8);
        x.offer(0, 1, 1000000, 0, 0, 0);
        x.offer(0, 2, 1000000, 0, 0, 0);
        x.offer(0, 3, weight, 0, die, 0);
        String what = weight + " / (" + die + " + 1)";
        due.same(what, x.threshold(0), threshold);
        due.same(what + " in both", x.threshold(2), threshold);
    }

    private void thresholdIsRoundedDown() {
        rounded(1, MOST, 1);
        rounded(1, MOST - 1, 1);
        rounded(1, 1 << 30, 1);
        rounded(1, (1 << 30) - 1, 2);
        rounded(1, (1 << 30) - 2, 2);
        rounded(1, 715827882, 2);
        rounded(1, 715827881, 3);
        rounded(2, MOST, 2);
        rounded(3, MOST - 1, 3);
        rounded(1000000, MOST, 1000000);
        rounded(1000000, MOST - 1, 1000000);
        rounded(1000000, MOST - 2147, 1000000);
        rounded(1000000, MOST - 2148, 1000001);
        rounded(1, 0, 2147483648L);
        rounded(1, 2, 715827882);
        rounded(1000000, 2, 715827882666666L);
        rounded(999999, 0, 2147481500516352L);
        rounded(1000000, 1, 1073741824000000L);
        rounded(1000000, 0, 2147483648000000L);
    }

    private void estimatedWeightIsTheGreater() {
        terms("14", "The estimated weight of an offer in the sample is its weight, or the threshold if that is greater.");
        for (int threshold = 1; threshold <= 3; threshold++) {
            ReservoirReed x = begun(4, 8);
            for (int weight = 4; weight >= 1; weight--) {
                x.offer(0, weight, weight, 0, 0, 0);
                due.same("no threshold", x.estimatedWeight(0, 4 - weight), weight);
            }
            x.offer(0, 9, threshold, 0, MOST, 0);
            for (int weight = 4; weight >= 1; weight--) {
                String what = "weight " + weight + ", threshold " + threshold;
                due.same(what, x.estimatedWeight(0, 4 - weight), weight > threshold ? weight : threshold);
                due.same(what + ", both", x.estimatedWeight(2, 4 - weight), weight > threshold ? weight : threshold);
            }
        }
        ReservoirReed y = begun(2, 8);
        y.offer(0, 1, 1000000, 0, 0, 0);
        y.offer(0, 2, 999999, 0, 0, 0);
        y.offer(1, 3, 1000000, 0, MOST, 0);
        due.same("weight 1000000, threshold 1000000", y.estimatedWeight(2, 0), 1000000);
        due.same("weight 999999, threshold 1000000", y.estimatedWeight(2, 1), 1000000);
        due.same("weight 999999, one stream alone", y.estimatedWeight(0, 1), 999999);
    }

    // ---- promises 12 to 17

    private void sampleSize() {
        promise(12, "Returns how many offers the priority sample has.");
        for (int k = 2; k <= 16; k++) {
            ReservoirReed x = begun(k, 8);
            for (int i = 0; i <= k + 1; i++) {
                due.same("behind " + i + " offers of one item, k = " + k, x.prioritySize(0), Math.min(i, k));
                x.offer(0, 7, 1, 0, 0, 0);
            }
        }
        promise(12, "Returns the number.");
        for (int k = 2; k <= 16; k++) {
            ReservoirReed x = begun(k, 8);
            x.offer(0, 7, 1, 0, 0, 0);
            for (int i = 1; i <= k + 1; i++) {
                x.offer(1, 7, 1, 0, 0, 0);
                due.same("1 and " + i + " offers, k = " + k, x.prioritySize(2), Math.min(i + 1, k));
                due.same("1 offer alone, k = " + k, x.prioritySize(0), 1);
            }
        }
    }

    private void sampleItems() {
        promise(13, "Returns the item of an offer of the priority sample.");
        ReservoirReed x = begun(3, 8);
        x.offer(0, 500, 1, 0, 0, 0);
        x.offer(0, 500, 3, 0, 0, 0);
        x.offer(1, 600, 2, 0, 0, 0);
        order("an item twice", x, 0, 500, 500);
        order("both streams", x, 2, 500, 600, 500);
        promise(13, "place: 0 for the offer with the greatest priority");
        due.same("place 0", x.priorityItem(1, 0), 600);
        x.offer(1, 700, 9, 0, 0, 0);
        due.same("a greater one", x.priorityItem(1, 0), 700);
        due.same("a greater one in both", x.priorityItem(2, 0), 700);
        due.same("the next", x.priorityItem(1, 1), 600);
        promise(13, "Returns the item.");
        x.offer(0, 1000000, 1000000, 3, 0, 0);
        due.same("the greatest item", x.priorityItem(0, 0), 1000000);
        x.offer(1, 0, 1000000, 3, 0, 0);
        due.same("the least item", x.priorityItem(1, 0), 0);
        due.same("the least item in both", x.priorityItem(2, 1), 0);
    }

    private void estimatedWeights() {
        promise(14, "Returns the estimated weight of an offer of the priority sample.");
        ReservoirReed x = begun(2, 8);
        x.offer(0, 1, 5, 0, 9, 0);
        x.offer(0, 2, 4, 0, 0, 0);
        due.same("the second", x.estimatedWeight(0, 1), 5);
        promise(14, "place: 0 for the offer with the greatest priority");
        due.same("not the one with the greatest weight", x.estimatedWeight(0, 0), 4);
        x.offer(0, 3, 7, 0, 1, 0);
        due.same("a greater weight at place 1", x.estimatedWeight(0, 1), 1L << 30);
        promise(14, "Returns its weight, or the threshold if that is greater.");
        ReservoirReed y = begun(16, 8);
        for (int i = 1; i <= 16; i++) {
            y.offer(0, i, 1000000, 0, 0, 0);
        }
        due.same("the greatest weight", y.estimatedWeight(0, 15), 1000000);
        y.offer(0, 17, 1000000, 0, 0, 0);
        due.same("the greatest threshold, place 0", y.estimatedWeight(0, 0), GREATEST);
        due.same("the greatest threshold, place 15", y.estimatedWeight(2, 15), GREATEST);
        ReservoirReed z = begun(2, 8);
        z.offer(1, 1, 1, 0, MOST, 0);
        due.same("the least weight", z.estimatedWeight(1, 0), 1);
    }

    private void thresholds() {
        promise(15, "Returns the threshold of the priority sample.");
        ReservoirReed x = begun(2, 8);
        x.offer(0, 1, 3, 0, 0, 0);
        x.offer(0, 2, 2, 0, 0, 0);
        x.offer(0, 3, 1, 0, 0, 0);
        due.same("three offers", x.threshold(0), 1L << 31);
        promise(15, "Returns the threshold, 0 if there are at most k offers.");
        due.same("none", x.threshold(1), 0);
        x.offer(1, 4, 5, 0, 0, 0);
        x.offer(1, 5, 5, 0, 0, 0);
        due.same("k offers", x.threshold(1), 0);
        due.same("five in both", x.threshold(2), 3L << 31);
        for (int i = 4; i <= 300; i++) {
            x.offer(0, 6, 1000000, 0, 0, 0);
        }
        due.same("300 offers", x.threshold(0), GREATEST);
        due.same("300 offers and 2", x.threshold(2), GREATEST);
        x.begin(2, 8);
        due.same("behind begin", x.threshold(0), 0);
    }

    private void estimates() {
        promise(16, "Estimates the sum of the weights of all offers of a group.");
        ReservoirReed x = begun(3, 8);
        due.same("none", x.estimate(0, 0), 0);
        x.offer(0, 1, 5, 1, 0, 0);
        x.offer(0, 2, 1, 1, 0, 0);
        x.offer(0, 3, 4, 2, 0, 0);
        due.same("k offers: the exact sum", x.estimate(0, 1), 6);
        promise(16, "Returns the sum of the estimated weights of the offers of that group in the priority sample.");
        x.offer(0, 4, 2, 0, MOST, 0);
        due.same("each the greater by itself: 5 and 2", x.estimate(0, 1), 7);
        due.same("one of the group", x.estimate(0, 2), 4);
        due.same("offered, but not in the sample", x.estimate(0, 0), 0);
        due.same("never offered", x.estimate(2, 3), 0);
        for (int group = 0; group <= 3; group++) {
            ReservoirReed y = begun(16, 8);
            for (int i = 1; i <= 16; i++) {
                y.offer(i % 2, i, 1000000, group, 0, 0);
            }
            due.same("16 of the greatest weight", y.estimate(2, group), 16000000);
            y.offer(0, 17, 1000000, (group + 1) % 4, 0, 0);
            due.same("the last of stream 0 is in the sample", y.estimate(2, (group + 1) % 4), GREATEST);
            due.same("fifteen", y.estimate(2, group), 15 * GREATEST);
            y.clear(0);
            for (int i = 1; i <= 9; i++) {
                y.offer(0, i, 1000000, group, 0, 0);
            }
            due.same("the greatest of all", y.estimate(2, group), 16 * GREATEST);
        }
    }

    private void sampledWeights() {
        promise(17, "Returns a lower bound for the sum of the weights of all offers of a group.");
        for (int group = 0; group <= 3; group++) {
            ReservoirReed x = begun(2, 8);
            due.same("none", x.sampledWeight(0, group), 0);
            x.offer(0, 1, 4, group, 0, 0);
            x.offer(0, 2, 3, group, 0, 0);
            due.same("k offers: the exact sum", x.sampledWeight(0, group), 7);
            x.offer(0, 3, 2, group, 0, 0);
            due.same("one more: a lower bound", x.sampledWeight(0, group), 7);
            due.same("the exact one", x.exactWeight(0, group), 9);
        }
        promise(17, "Returns the sum of the weights of the offers of that group in the priority sample.");
        ReservoirReed y = begun(3, 8);
        y.offer(0, 1, 1, 1, 0, 0);
        y.offer(1, 2, 2, 1, 0, 0);
        y.offer(1, 3, 3, 2, 0, 0);
        y.offer(0, 4, 9, 0, MOST, 0);
        due.same("the weights, not the threshold of 9", y.sampledWeight(2, 1), 3);
        due.same("one of the group", y.sampledWeight(2, 2), 3);
        due.same("offered, but not in the sample", y.sampledWeight(2, 0), 0);
        due.same("but in that of its own stream", y.sampledWeight(0, 0), 9);
        due.same("never offered", y.sampledWeight(2, 3), 0);
        for (int group = 0; group <= 3; group++) {
            ReservoirReed z = begun(16, 8);
            for (int i = 1; i <= 300; i++) {
                z.offer(0, i, 1000000, group, 0, 0);
            }
            due.same("the greatest of a stream", z.sampledWeight(0, group), 16000000);
            due.same("the greatest of both", z.sampledWeight(2, group), 16000000);
        }
    }
}
