/** Samples from two streams of items, where all dice are told by the caller. */
public final class ReservoirReed {
    private static final int LEAST_SIZE = 2;
    private static final int MOST_SIZE = 16;
    private static final int LEAST_WINDOW = 1;
    private static final int MOST_WINDOW = 64;
    private static final int FIRST_SIZE = 4;
    private static final int FIRST_WINDOW = 8;
    private static final int MOST_OFFERS = 300;
    private static final int MOST_ITEM = 1000000;
    private static final int MOST_WEIGHT = 1000000;
    private static final int LAST_GROUP = 3;
    private static final int MOST_DIE = 2147483647;
    private static final int LAST_STREAM = 1;
    private static final int BOTH_STREAMS = 2;
    private static final int THRESHOLD_SHIFT = 31;
    private static final long HASH_FACTOR = 2654435761L;
    private static final long HASH_RANGE = 4294967296L;

    private final Stream stream0 = new Stream();
    private final Stream stream1 = new Stream();
    // Filled anew by each question about both streams, so that no question makes an object.
    private final Priorities mergedPriorities = new Priorities();
    private final Distinct mergedDistinct = new Distinct();
    private int size;

    public ReservoirReed() {
        startAgain(FIRST_SIZE, FIRST_WINDOW);
    }

    public void begin(int size, int window) throws IllegalArgumentException {
        checkArgument(size, LEAST_SIZE, MOST_SIZE);
        checkArgument(window, LEAST_WINDOW, MOST_WINDOW);
        startAgain(size, window);
    }

    public int offer(int stream, int item, int weight, int group, int first, int second)
            throws IllegalArgumentException, IllegalStateException {
        checkArgument(stream, 0, LAST_STREAM);
        checkArgument(item, 0, MOST_ITEM);
        checkArgument(weight, 1, MOST_WEIGHT);
        checkArgument(group, 0, LAST_GROUP);
        checkArgument(first, 0, MOST_DIE);
        checkArgument(second, 0, MOST_DIE);
        Stream taker = streamOf(stream);
        checkState(taker.taken < MOST_OFFERS);
        taker.take(item, weight, group, first, second);
        return taker.taken;
    }

    public int clear(int stream) throws IllegalArgumentException {
        checkArgument(stream, 0, LAST_STREAM);
        Stream cleared = streamOf(stream);
        int had = cleared.taken;
        cleared.makeEmpty();
        return had;
    }

    public int offers(int stream) throws IllegalArgumentException {
        checkArgument(stream, 0, BOTH_STREAMS);
        if (stream == BOTH_STREAMS) {
            return stream0.taken + stream1.taken;
        }
        return streamOf(stream).taken;
    }

    public int exactWeight(int stream, int group) throws IllegalArgumentException {
        checkArgument(stream, 0, BOTH_STREAMS);
        checkArgument(group, 0, LAST_GROUP);
        if (stream == BOTH_STREAMS) {
            return stream0.groupOf(group).weight + stream1.groupOf(group).weight;
        }
        return streamOf(stream).groupOf(group).weight;
    }

    // ---- reservoirs

    public int reservoirSize(int stream) throws IllegalArgumentException {
        checkArgument(stream, 0, LAST_STREAM);
        return streamOf(stream).reservoir.filled();
    }

    public int reservoirItem(int stream, int slot)
            throws IllegalArgumentException, IndexOutOfBoundsException {
        checkArgument(stream, 0, LAST_STREAM);
        Reservoir reservoir = streamOf(stream).reservoir;
        checkPlace(slot, reservoir.filled());
        return at(reservoir.items, slot);
    }

    public int reservoirPosition(int stream, int slot)
            throws IllegalArgumentException, IndexOutOfBoundsException {
        checkArgument(stream, 0, LAST_STREAM);
        Reservoir reservoir = streamOf(stream).reservoir;
        checkPlace(slot, reservoir.filled());
        return at(reservoir.positions, slot);
    }

    public int groupOffers(int stream, int group) throws IllegalArgumentException {
        checkArgument(stream, 0, LAST_STREAM);
        checkArgument(group, 0, LAST_GROUP);
        return streamOf(stream).groupOf(group).reservoir.given;
    }

    public int groupItem(int stream, int group, int slot)
            throws IllegalArgumentException, IndexOutOfBoundsException {
        checkArgument(stream, 0, LAST_STREAM);
        checkArgument(group, 0, LAST_GROUP);
        Reservoir reservoir = streamOf(stream).groupOf(group).reservoir;
        checkPlace(slot, reservoir.filled());
        return at(reservoir.items, slot);
    }

    // ---- priorities

    public int prioritySize(int stream) throws IllegalArgumentException {
        checkArgument(stream, 0, BOTH_STREAMS);
        return prioritiesOf(stream).sampled();
    }

    public int priorityItem(int stream, int place)
            throws IllegalArgumentException, IndexOutOfBoundsException {
        checkArgument(stream, 0, BOTH_STREAMS);
        Priorities priorities = prioritiesOf(stream);
        checkPlace(place, priorities.sampled());
        return at(priorities.items, place);
    }

    public long estimatedWeight(int stream, int place)
            throws IllegalArgumentException, IndexOutOfBoundsException {
        checkArgument(stream, 0, BOTH_STREAMS);
        Priorities priorities = prioritiesOf(stream);
        checkPlace(place, priorities.sampled());
        return priorities.estimateAt(place);
    }

    public long threshold(int stream) throws IllegalArgumentException {
        checkArgument(stream, 0, BOTH_STREAMS);
        return prioritiesOf(stream).bound();
    }

    public long estimate(int stream, int group) throws IllegalArgumentException {
        checkArgument(stream, 0, BOTH_STREAMS);
        checkArgument(group, 0, LAST_GROUP);
        return prioritiesOf(stream).estimatedSum(group);
    }

    public int sampledWeight(int stream, int group) throws IllegalArgumentException {
        checkArgument(stream, 0, BOTH_STREAMS);
        checkArgument(group, 0, LAST_GROUP);
        return prioritiesOf(stream).weightSum(group);
    }

    // ---- distinct items

    public int distinctSize(int stream) throws IllegalArgumentException {
        checkArgument(stream, 0, BOTH_STREAMS);
        return distinctOf(stream).held;
    }

    public int distinctItem(int stream, int place)
            throws IllegalArgumentException, IndexOutOfBoundsException {
        checkArgument(stream, 0, BOTH_STREAMS);
        Distinct distinct = distinctOf(stream);
        checkPlace(place, distinct.held);
        return at(distinct.items, place);
    }

    public int distinctOffers(int stream, int place)
            throws IllegalArgumentException, IndexOutOfBoundsException {
        checkArgument(stream, 0, BOTH_STREAMS);
        Distinct distinct = distinctOf(stream);
        checkPlace(place, distinct.held);
        return at(distinct.times, place);
    }

    public long distinctEstimate(int stream) throws IllegalArgumentException {
        checkArgument(stream, 0, BOTH_STREAMS);
        return distinctOf(stream).estimatedCount();
    }

    // ---- the window

    public int windowItem(int stream) throws IllegalArgumentException, IllegalStateException {
        checkArgument(stream, 0, LAST_STREAM);
        Stream asked = streamOf(stream);
        checkState(asked.taken > 0);
        return at(asked.chain.items, asked.chain.start);
    }

    public int windowPosition(int stream) throws IllegalArgumentException, IllegalStateException {
        checkArgument(stream, 0, LAST_STREAM);
        Stream asked = streamOf(stream);
        checkState(asked.taken > 0);
        return at(asked.chain.positions, asked.chain.start);
    }

    public int chainLength(int stream) throws IllegalArgumentException {
        checkArgument(stream, 0, LAST_STREAM);
        return streamOf(stream).chain.length();
    }

    public int successor(int stream) throws IllegalArgumentException, IllegalStateException {
        checkArgument(stream, 0, LAST_STREAM);
        Stream asked = streamOf(stream);
        checkState(asked.taken > 0);
        return asked.chain.awaited;
    }

    // ---- what the calls share

    private void startAgain(int newSize, int newWindow) {
        size = newSize;
        stream0.startAgain(newSize, newWindow);
        stream1.startAgain(newSize, newWindow);
    }

    private Stream streamOf(int stream) {
        return stream == 0 ? stream0 : stream1;
    }

    // What is among the first of both streams together is among the first of its own stream too,
    // so the samples of the two are enough to tell the merged one.
    private Priorities prioritiesOf(int stream) {
        if (stream != BOTH_STREAMS) {
            return streamOf(stream).priorities;
        }
        mergedPriorities.startAgain(size);
        mergedPriorities.addAll(stream0.priorities);
        mergedPriorities.addAll(stream1.priorities);
        return mergedPriorities;
    }

    private Distinct distinctOf(int stream) {
        if (stream != BOTH_STREAMS) {
            return streamOf(stream).distinct;
        }
        mergedDistinct.startAgain(size);
        mergedDistinct.addAll(stream0.distinct);
        mergedDistinct.addAll(stream1.distinct);
        return mergedDistinct;
    }

    private static void checkArgument(int value, int least, int most) {
        if (value < least || value > most) {
            throw new IllegalArgumentException("an argument is out of range");
        }
    }

    private static void checkState(boolean possible) {
        if (!possible) {
            throw new IllegalStateException("the call is not possible now");
        }
    }

    private static void checkPlace(int place, int places) {
        if (place < 0 || place >= places) {
            throw new IndexOutOfBoundsException("there is no such place or slot");
        }
    }

    // The tests in the next four keep the machine itself from ever throwing.
    private static int at(int[] row, int index) {
        return index >= 0 && index < row.length ? row[index] : 0;
    }

    private static void put(int[] row, int index, int value) {
        if (index >= 0 && index < row.length) {
            row[index] = value;
        }
    }

    private static int remainder(int die, int divisor) {
        return divisor > 0 ? die % divisor : 0;
    }

    private static long quotient(long value, long divisor) {
        return divisor > 0 ? value / divisor : 0;
    }

    // The end is the one behind the new entry: where a sample is full already and its end stays,
    // the last entry is pushed out.
    private static void insert(int[] row, int place, int end, int value) {
        for (int i = end - 1; i > place; i--) {
            put(row, i, at(row, i - 1));
        }
        put(row, place, value);
    }

    /** One stream with all its samples. */
    private static final class Stream {
        private final Reservoir reservoir = new Reservoir();
        private final Group group0 = new Group();
        private final Group group1 = new Group();
        private final Group group2 = new Group();
        private final Group group3 = new Group();
        private final Priorities priorities = new Priorities();
        private final Distinct distinct = new Distinct();
        private final Chain chain = new Chain();
        private int size;
        private int window;
        private int taken;

        void startAgain(int newSize, int newWindow) {
            size = newSize;
            window = newWindow;
            makeEmpty();
        }

        void makeEmpty() {
            taken = 0;
            reservoir.startAgain(size);
            group0.startAgain(size);
            group1.startAgain(size);
            group2.startAgain(size);
            group3.startAgain(size);
            priorities.startAgain(size);
            distinct.startAgain(size);
            chain.startAgain(window);
        }

        void take(int item, int weight, int group, int first, int second) {
            taken++;
            reservoir.give(item, taken, first);
            groupOf(group).give(item, weight, taken, first);
            priorities.add(item, weight, group, first);
            distinct.add(item, 1);
            chain.give(item, taken, first, second);
        }

        Group groupOf(int group) {
            switch (group) {
                case 0: return group0;
                case 1: return group1;
                case 2: return group2;
                default: return group3;
            }
        }
    }

    /** The offers of one group of a stream. */
    private static final class Group {
        private final Reservoir reservoir = new Reservoir();
        private int weight;

        void startAgain(int size) {
            weight = 0;
            reservoir.startAgain(size);
        }

        void give(int item, int offered, int position, int die) {
            weight += offered;
            reservoir.give(item, position, die);
        }
    }

    /** A uniform sample in slots. */
    private static final class Reservoir {
        private final int[] items = new int[MOST_SIZE];
        private final int[] positions = new int[MOST_SIZE];
        private int size;
        private int given;

        void startAgain(int newSize) {
            size = newSize;
            given = 0;
        }

        // The die is taken modulo the count of this reservoir's own offers: in a group's
        // reservoir that is not the position in the stream.
        void give(int item, int position, int die) {
            given++;
            int slot = given <= size ? given - 1 : remainder(die, given);
            if (slot < size) {
                put(items, slot, item);
                put(positions, slot, position);
            }
        }

        int filled() {
            return Math.min(given, size);
        }
    }

    /** The priority sample, and behind it one offer more, which tells the threshold. */
    private static final class Priorities {
        private final int[] items = new int[MOST_SIZE + 1];
        private final int[] weights = new int[MOST_SIZE + 1];
        private final int[] groups = new int[MOST_SIZE + 1];
        private final int[] dice = new int[MOST_SIZE + 1];
        private int size;
        private int held;

        void startAgain(int newSize) {
            size = newSize;
            held = 0;
        }

        void addAll(Priorities other) {
            int count = other.held;
            for (int i = 0; i < count; i++) {
                add(at(other.items, i), at(other.weights, i), at(other.groups, i), at(other.dice, i));
            }
        }

        void add(int item, int weight, int group, int die) {
            int place = placeFor(weight, die);
            if (place > size) {
                return;
            }
            held = Math.min(held + 1, size + 1);
            insert(items, place, held, item);
            insert(weights, place, held, weight);
            insert(groups, place, held, group);
            insert(dice, place, held, die);
        }

        // Only a greater priority goes ahead: of equal ones the earlier offer stays in front.
        private int placeFor(int weight, int die) {
            int place = held;
            while (place > 0 && isGreater(weight, die, place - 1)) {
                place--;
            }
            return place;
        }

        // The fractions are compared crosswise, since a division would round.
        private boolean isGreater(int weight, int die, int place) {
            return weight * (at(dice, place) + 1L) > at(weights, place) * (die + 1L);
        }

        int sampled() {
            return Math.min(held, size);
        }

        long bound() {
            if (held <= size) {
                return 0;
            }
            long weight = at(weights, size);
            return quotient(weight << THRESHOLD_SHIFT, at(dice, size) + 1L);
        }

        long estimateAt(int place) {
            return Math.max(at(weights, place), bound());
        }

        long estimatedSum(int group) {
            long sum = 0;
            int count = sampled();
            for (int i = 0; i < count; i++) {
                if (at(groups, i) == group) {
                    sum += estimateAt(i);
                }
            }
            return sum;
        }

        int weightSum(int group) {
            int sum = 0;
            int count = sampled();
            for (int i = 0; i < count; i++) {
                if (at(groups, i) == group) {
                    sum += at(weights, i);
                }
            }
            return sum;
        }
    }

    /** The items with the least hashes. */
    private static final class Distinct {
        private final int[] items = new int[MOST_SIZE];
        private final int[] times = new int[MOST_SIZE];
        private int size;
        private int held;

        void startAgain(int newSize) {
            size = newSize;
            held = 0;
        }

        void addAll(Distinct other) {
            int count = other.held;
            for (int i = 0; i < count; i++) {
                add(at(other.items, i), at(other.times, i));
            }
        }

        // An item that falls out never comes back, because the hashes in the sample only get
        // less: so the count of an item in it has seen all the item's offers.
        void add(int item, int offered) {
            int place = placeFor(item);
            if (place < held && at(items, place) == item) {
                put(times, place, at(times, place) + offered);
                return;
            }
            if (place >= size) {
                return;
            }
            held = Math.min(held + 1, size);
            insert(items, place, held, item);
            insert(times, place, held, offered);
        }

        private int placeFor(int item) {
            long hash = hashOf(item);
            int place = 0;
            while (place < held && hashOf(at(items, place)) < hash) {
                place++;
            }
            return place;
        }

        private static long hashOf(int item) {
            return item * HASH_FACTOR % HASH_RANGE + 1;
        }

        long estimatedCount() {
            if (held < size) {
                return held;
            }
            return quotient((size - 1) * HASH_RANGE, hashOf(at(items, size - 1)));
        }
    }

    /** The chain of the window sample. */
    private static final class Chain {
        // The chain lies from start to end - 1. No offer is added twice, so in rows with a place
        // for each offer of a stream it never has to be moved.
        private final int[] items = new int[MOST_OFFERS];
        private final int[] positions = new int[MOST_OFFERS];
        private int window;
        private int start;
        private int end;
        private int awaited;

        void startAgain(int newWindow) {
            window = newWindow;
            start = 0;
            end = 0;
            awaited = 0;
        }

        void give(int item, int position, int first, int second) {
            if (remainder(first, Math.min(position, window)) == 0) {
                start = 0;
                end = 0;
                append(item, position, second);
            } else if (position == awaited) {
                append(item, position, second);
            }
            while (start < end && at(positions, start) <= position - window) {
                start++;
            }
        }

        private void append(int item, int position, int second) {
            put(items, end, item);
            put(positions, end, position);
            end++;
            awaited = position + 1 + remainder(second, window);
        }

        int length() {
            return end - start;
        }
    }
}
