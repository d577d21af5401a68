/** Promises 12 to 17: prioritySize, priorityItem, estimatedWeight, threshold, estimate, sampledWeight. */
public final class PrioritiesTest {
    private static final int MOST = Integer.MAX_VALUE;
    private static final Due due = new Due();

    public static void main(String[] args) {
        order();
        equalPriorities();
        nearlyEqualPriorities();
        thresholdAndEstimates();
        merged();
        emptiedAndFilled();
        greatestSize();
        greatestNumbers();
        wrongCalls();
        due.end("PrioritiesTest");
    }

    private static void items(String what, ReservoirReed x, int stream, int... want) {
        due.same("12: " + what, x.prioritySize(stream), want.length);
        for (int i = 0; i < want.length; i++) {
            due.same("13: " + what + ", place " + i, x.priorityItem(stream, i), want[i]);
        }
        due.noSuchPlace("13: " + what + ", behind the last", () -> x.priorityItem(stream, want.length));
        due.noSuchPlace("14: " + what + ", behind the last", () -> x.estimatedWeight(stream, want.length));
    }

    private static void order() {
        ReservoirReed x = new ReservoirReed();
        x.begin(3, 8);
        items("empty", x, 0);
        x.offer(0, 1, 5, 0, 9, 0);
        items("1/2", x, 0, 1);
        x.offer(0, 2, 9, 0, 2, 0);
        items("3 in front", x, 0, 2, 1);
        x.offer(0, 3, 4, 0, 3, 0);
        items("1 between", x, 0, 2, 3, 1);
        x.offer(0, 4, 1, 0, 2, 0);
        items("1/3 stays out", x, 0, 2, 3, 1);
        x.offer(0, 5, 8, 0, 3, 0);
        items("2 pushes one out", x, 0, 2, 5, 3);
        x.offer(0, 2, 100, 0, 0, 0);
        items("an item may be there twice", x, 0, 2, 2, 5);
        items("the other stream", x, 1);
        items("both streams", x, 2, 2, 2, 5);
    }

    private static void equalPriorities() {
        ReservoirReed x = new ReservoirReed();
        x.begin(2, 8);
        x.offer(0, 1, 2, 0, 3, 0);
        x.offer(0, 2, 1, 0, 1, 0);
        x.offer(0, 3, 4, 0, 7, 0);
        items("equal ones in their order", x, 0, 1, 2);
        due.same("15: an equal one is the threshold", x.threshold(0), 1L << 30);
        x.offer(1, 4, 50, 0, 99, 0);
        items("equal, stream 0 first", x, 2, 1, 2);
        x.clear(0);
        x.offer(0, 5, 3, 0, 5, 0);
        items("equal, stream 0 first though later", x, 2, 5, 4);
    }

    private static void nearlyEqualPriorities() {
        ReservoirReed x = new ReservoirReed();
        x.begin(2, 8);
        x.offer(0, 1, 999999, 0, MOST - 1, 0);
        x.offer(0, 2, 1000000, 0, MOST, 0);
        items("the greater by a hair in front", x, 0, 2, 1);
        x.offer(0, 3, 1, 0, 2146, 0);
        x.offer(0, 4, 1, 0, 2147, 0);
        items("neither rounded nor cut", x, 0, 3, 2);
    }

    private static void thresholdAndEstimates() {
        ReservoirReed x = new ReservoirReed();
        x.begin(2, 8);
        x.offer(0, 1, 30, 1, 0, 0);
        x.offer(0, 2, 7, 2, 10, 0);
        due.same("15: 0 with k offers", x.threshold(0), 0);
        due.same("14: the weight", x.estimatedWeight(0, 0), 30);
        due.same("14: the weight", x.estimatedWeight(0, 1), 7);
        due.same("16: the weight", x.estimate(0, 2), 7);
        x.offer(0, 3, 1, 1, MOST, 0);
        due.same("15: 1 / 2^31 * 2^31", x.threshold(0), 1);
        due.same("14: the weight is greater", x.estimatedWeight(0, 1), 7);
        x.offer(0, 4, 1, 1, 171798691, 0);
        due.same("15: rounded down", x.threshold(0), (1L << 31) / 171798692L);
        due.same("14: the threshold is greater", x.estimatedWeight(0, 1), 12);
        due.same("14: the weight is greater", x.estimatedWeight(0, 0), 30);
        due.same("16: group 1", x.estimate(0, 1), 30);
        due.same("16: group 2", x.estimate(0, 2), 12);
        due.same("16: group 0", x.estimate(0, 0), 0);
        due.same("17: group 1, only the sample", x.sampledWeight(0, 1), 30);
        due.same("17: group 2, the weight itself", x.sampledWeight(0, 2), 7);
        due.same("17: group 3", x.sampledWeight(0, 3), 0);
        x.offer(0, 5, 6, 2, 0, 0);
        due.same("15: from the one that fell out", x.threshold(0), 7 * (1L << 31) / 11);
        due.same("17: two at once", x.sampledWeight(0, 1) + x.sampledWeight(0, 2), 36);
    }

    private static void merged() {
        ReservoirReed x = new ReservoirReed();
        x.begin(2, 8);
        x.offer(0, 1, 10, 0, 0, 0);
        x.offer(1, 2, 20, 0, 0, 0);
        due.same("15: two offers in both", x.threshold(2), 0);
        items("both", x, 2, 2, 1);
        x.offer(1, 3, 15, 1, 0, 0);
        due.same("15: three offers in both", x.threshold(2), 10L << 31);
        due.same("15: but two in one", x.threshold(1), 0);
        items("both", x, 2, 2, 3);
        due.same("14: both", x.estimatedWeight(2, 1), 10L << 31);
        due.same("16: both", x.estimate(2, 1), 10L << 31);
        due.same("17: both", x.sampledWeight(2, 0), 20);
        due.same("17: one alone", x.sampledWeight(0, 0), 10);
        items("one alone is as it was", x, 0, 1);
        x.clear(1);
        items("both, one of them empty", x, 2, 1);
    }

    private static void emptiedAndFilled() {
        ReservoirReed x = new ReservoirReed();
        x.begin(2, 8);
        x.offer(0, 1, 3, 0, 0, 0);
        x.offer(0, 2, 2, 0, 0, 0);
        x.offer(0, 3, 1, 0, 0, 0);
        due.same("15: three offers", x.threshold(0), 1L << 31);
        due.same("15: three offers in both", x.threshold(2), 1L << 31);
        x.clear(0);
        x.offer(0, 4, 3, 0, 0, 0);
        x.offer(0, 5, 2, 0, 0, 0);
        due.same("15: nothing is left from before", x.threshold(0), 0);
        due.same("15: nothing is left from before in both", x.threshold(2), 0);
        items("nothing is left from before", x, 0, 4, 5);
    }

    private static void greatestSize() {
        ReservoirReed x = new ReservoirReed();
        x.begin(16, 8);
        for (int i = 1; i <= 18; i++) {
            x.offer(0, i, 1 + i % 2, 0, i, 0);
        }
        due.same("15: the seventeenth is 1 / 17", x.threshold(0), (1L << 31) / 17);
        items("sixteen", x, 0, 1, 3, 2, 5, 7, 4, 9, 11, 6, 13, 15, 8, 17, 10, 12, 14);
    }

    private static void greatestNumbers() {
        ReservoirReed x = new ReservoirReed();
        x.begin(16, 8);
        for (int i = 0; i < 10; i++) {
            x.offer(0, 1000000, 1000000, 3, 0, 0);
            x.offer(1, 1000000, 1000000, 3, 0, 0);
        }
        long greatest = 1000000L << 31;
        due.same("15: greatest", x.threshold(2), greatest);
        due.same("14: greatest", x.estimatedWeight(2, 15), greatest);
        due.same("16: greatest", x.estimate(2, 3), 16 * greatest);
        due.same("17: greatest", x.sampledWeight(2, 3), 16000000);
    }

    private static void wrongCalls() {
        ReservoirReed x = new ReservoirReed();
        x.offer(0, 1, 1, 0, 0, 0);
        for (int wrong : new int[] {-1, 3, MOST, Integer.MIN_VALUE}) {
            due.illegalArgument("12: stream", () -> x.prioritySize(wrong));
            due.illegalArgument("13: stream before place", () -> x.priorityItem(wrong, -1));
            due.illegalArgument("14: stream before place", () -> x.estimatedWeight(wrong, 9));
            due.illegalArgument("15: stream", () -> x.threshold(wrong));
            due.illegalArgument("16: stream", () -> x.estimate(wrong, 0));
            due.illegalArgument("17: stream", () -> x.sampledWeight(wrong, 0));
            due.noSuchPlace("13: place", () -> x.priorityItem(0, wrong));
            due.noSuchPlace("14: place", () -> x.estimatedWeight(2, wrong));
        }
        for (int wrong : new int[] {-1, 4, MOST, Integer.MIN_VALUE}) {
            due.illegalArgument("16: group", () -> x.estimate(2, wrong));
            due.illegalArgument("17: group", () -> x.sampledWeight(0, wrong));
        }
    }
}
