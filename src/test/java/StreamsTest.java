/** Promises 1 to 6: a new object, begin, offer, clear, offers, exactWeight. */
public final class StreamsTest {
    private static final int MOST = Integer.MAX_VALUE;
    private static final Due due = new Due();

    public static void main(String[] args) {
        newObject();
        begin();
        beginOutOfRange();
        offer();
        offerOutOfRange();
        offerToAFullStream();
        clear();
        everyGroupIsEmptied();
        offers();
        exactWeight();
        due.end("StreamsTest");
    }

    private static ReservoirReed filled(int size, int window, int count) {
        ReservoirReed x = new ReservoirReed();
        x.begin(size, window);
        for (int i = 1; i <= count; i++) {
            x.offer(0, i, 1, 0, 1, 0);
        }
        return x;
    }

    private static void newObject() {
        ReservoirReed x = new ReservoirReed();
        for (int stream = 0; stream <= 2; stream++) {
            due.same("1: offers", x.offers(stream), 0);
            due.same("1: prioritySize", x.prioritySize(stream), 0);
            due.same("1: distinctSize", x.distinctSize(stream), 0);
            due.same("1: distinctEstimate", x.distinctEstimate(stream), 0);
            due.same("1: threshold", x.threshold(stream), 0);
        }
        for (int i = 1; i <= 6; i++) {
            x.offer(1, i, 1, 0, 1, 7);
        }
        due.same("1: k = 4 reservoir", x.reservoirSize(1), 4);
        due.same("1: k = 4 priorities", x.prioritySize(1), 4);
        due.same("1: k = 4 distinct", x.distinctSize(1), 4);
        due.same("1: w = 8, second die 7", x.successor(1), 9);
        x.offer(1, 7, 1, 0, 1, 0);
        x.offer(1, 8, 1, 0, 1, 0);
        x.offer(1, 9, 1, 0, 1, 0);
        due.same("1: w = 8, sample at the ninth", x.windowPosition(1), 9);
    }

    private static void begin() {
        ReservoirReed x = filled(2, 1, 5);
        due.same("2: size 2", x.reservoirSize(0), 2);
        due.same("2: window 1", x.windowPosition(0), 5);
        due.same("2: window 1, successor", x.successor(0), 6);
        x.offer(1, 1, 1, 0, 0, 0);
        x.begin(16, 64);
        due.same("2: begin empties stream 0", x.offers(0), 0);
        due.same("2: begin empties stream 1", x.offers(1), 0);
        due.same("2: begin empties the weights", x.exactWeight(2, 0), 0);
        due.same("2: begin empties the chain", x.chainLength(0), 0);
        for (int i = 1; i <= 20; i++) {
            x.offer(0, i, 1, 0, MOST, 63);
        }
        due.same("2: size 16 reservoir", x.reservoirSize(0), 16);
        due.same("2: size 16 priorities", x.prioritySize(0), 16);
        due.same("2: size 16 distinct", x.distinctSize(0), 16);
        due.same("2: size 16 merged priorities", x.prioritySize(2), 16);
        due.same("2: size 16 merged distinct", x.distinctSize(2), 16);
    }

    private static void beginOutOfRange() {
        ReservoirReed x = filled(3, 5, 4);
        due.illegalArgument("2: begin(1, 8)", () -> x.begin(1, 8));
        due.illegalArgument("2: begin(17, 8)", () -> x.begin(17, 8));
        due.illegalArgument("2: begin(4, 0)", () -> x.begin(4, 0));
        due.illegalArgument("2: begin(4, 65)", () -> x.begin(4, 65));
        due.illegalArgument("2: begin(-1, -1)", () -> x.begin(-1, -1));
        due.illegalArgument("2: begin(MIN, MAX)", () -> x.begin(Integer.MIN_VALUE, MOST));
        due.same("2: a refused begin keeps the offers", x.offers(0), 4);
        x.clear(0);
        for (int i = 1; i <= 5; i++) {
            x.offer(0, i, 1, 0, 1, 4);
        }
        due.same("2: a refused begin keeps k", x.reservoirSize(0), 3);
        due.same("2: a refused begin keeps w", x.windowPosition(0), 1);
    }

    private static void offer() {
        ReservoirReed x = new ReservoirReed();
        due.same("3: first position", x.offer(0, 5, 1, 0, 0, 0), 1);
        due.same("3: other stream", x.offer(1, 5, 1, 0, 0, 0), 1);
        due.same("3: second position", x.offer(0, 5, 1, 0, 0, 0), 2);
        due.same("3: least of all", x.offer(0, 0, 1, 0, 0, 0), 3);
        due.same("3: most of all", x.offer(0, 1000000, 1000000, 3, MOST, MOST), 4);
    }

    private static void offerOutOfRange() {
        ReservoirReed x = new ReservoirReed();
        due.illegalArgument("3: stream -1", () -> x.offer(-1, 1, 1, 0, 0, 0));
        due.illegalArgument("3: stream 2", () -> x.offer(2, 1, 1, 0, 0, 0));
        due.illegalArgument("3: item -1", () -> x.offer(0, -1, 1, 0, 0, 0));
        due.illegalArgument("3: item 1000001", () -> x.offer(0, 1000001, 1, 0, 0, 0));
        due.illegalArgument("3: weight 0", () -> x.offer(0, 1, 0, 0, 0, 0));
        due.illegalArgument("3: weight 1000001", () -> x.offer(0, 1, 1000001, 0, 0, 0));
        due.illegalArgument("3: group -1", () -> x.offer(0, 1, 1, -1, 0, 0));
        due.illegalArgument("3: group 4", () -> x.offer(0, 1, 1, 4, 0, 0));
        due.illegalArgument("3: first -1", () -> x.offer(0, 1, 1, 0, -1, 0));
        due.illegalArgument("3: second -1", () -> x.offer(0, 1, 1, 0, 0, -1));
        due.illegalArgument("3: first MIN", () -> x.offer(0, 1, 1, 0, Integer.MIN_VALUE, 0));
        due.same("3: refused offers do not count", x.offers(2), 0);
        due.same("3: refused offers weigh nothing", x.exactWeight(2, 0), 0);
    }

    private static void offerToAFullStream() {
        ReservoirReed x = filled(4, 8, 299);
        due.same("3: the last offer", x.offer(0, 300, 1, 0, 1, 0), 300);
        due.illegalState("3: offer 301", () -> x.offer(0, 1, 1, 0, 0, 0));
        due.illegalArgument("3: argument before state", () -> x.offer(0, 1, 1, 0, 0, -1));
        due.same("3: refused at 300", x.offers(0), 300);
        due.same("3: refused, weight", x.exactWeight(0, 0), 300);
        due.same("3: refused, chain", x.windowPosition(0), 293);
        due.same("3: the other stream is not full", x.offer(1, 1, 1, 0, 0, 0), 1);
        due.same("3: full stream told", x.clear(0), 300);
        due.same("3: room again", x.offer(0, 1, 1, 0, 0, 0), 1);
    }

    private static void clear() {
        ReservoirReed x = filled(4, 8, 6);
        x.offer(1, 7, 9, 1, 0, 0);
        due.illegalArgument("4: clear(2)", () -> x.clear(2));
        due.illegalArgument("4: clear(-1)", () -> x.clear(-1));
        due.same("4: refused clear keeps offers", x.offers(2), 7);
        due.same("4: clear tells the offers", x.clear(0), 6);
        due.same("4: empty offers", x.offers(0), 0);
        due.same("4: empty weights", x.exactWeight(0, 0), 0);
        due.same("4: empty reservoir", x.reservoirSize(0), 0);
        due.same("4: empty group", x.groupOffers(0, 0), 0);
        due.same("4: empty priorities", x.prioritySize(0), 0);
        due.same("4: empty threshold", x.threshold(0), 0);
        due.same("4: empty distinct", x.distinctSize(0), 0);
        due.same("4: empty chain", x.chainLength(0), 0);
        due.illegalState("4: empty window", () -> x.windowItem(0));
        due.same("4: the other stream stays", x.offers(1), 1);
        due.same("4: the other stream's weight stays", x.exactWeight(2, 1), 9);
        due.same("4: clear an empty stream", x.clear(0), 0);
        due.same("4: positions from 1 again", x.offer(0, 1, 1, 0, 0, 0), 1);
        due.same("4: size is kept", x.prioritySize(2), 2);
    }

    private static void everyGroupIsEmptied() {
        ReservoirReed x = new ReservoirReed();
        for (int stream = 0; stream <= 1; stream++) {
            for (int group = 0; group <= 3; group++) {
                x.offer(stream, 1, 5 + group, group, 0, 0);
            }
        }
        for (int group = 0; group <= 3; group++) {
            due.same("6: each group by itself", x.exactWeight(2, group), 10 + 2 * group);
        }
        x.clear(0);
        for (int group = 0; group <= 3; group++) {
            due.same("4: clear, offers of a group", x.groupOffers(0, group), 0);
            due.same("4: clear, weight of a group", x.exactWeight(0, group), 0);
            due.same("4: clear, the other stream", x.exactWeight(2, group), 5 + group);
        }
        x.begin(2, 8);
        for (int group = 0; group <= 3; group++) {
            due.same("2: begin, offers of a group", x.groupOffers(1, group), 0);
            due.same("2: begin, weight of a group", x.exactWeight(1, group), 0);
            x.offer(0, 1, 1, group, 1, 0);
            x.offer(0, 2, 1, group, 1, 0);
            x.offer(0, 3, 1, group, 2, 0);
            int asked = group;
            due.noSuchPlace("2: begin, size of a group", () -> x.groupItem(0, asked, 2));
            due.same("2: begin, size of a group", x.groupItem(0, asked, 1), 2);
        }
    }

    private static void offers() {
        ReservoirReed x = filled(2, 2, 5);
        x.offer(1, 7, 9, 1, 0, 0);
        due.same("5: stream 0", x.offers(0), 5);
        due.same("5: stream 1", x.offers(1), 1);
        due.same("5: both", x.offers(2), 6);
        due.illegalArgument("5: stream 3", () -> x.offers(3));
        due.illegalArgument("5: stream -1", () -> x.offers(-1));
    }

    private static void exactWeight() {
        ReservoirReed x = new ReservoirReed();
        for (int i = 0; i < 250; i++) {
            x.offer(0, 1, 1000000, 3, 0, 0);
            x.offer(1, 1, 1000000, 3, 0, 0);
        }
        x.offer(0, 1, 7, 2, 0, 0);
        due.same("6: stream 0", x.exactWeight(0, 3), 250000000);
        due.same("6: both", x.exactWeight(2, 3), 500000000);
        due.same("6: another group", x.exactWeight(2, 2), 7);
        due.same("6: no offers", x.exactWeight(1, 2), 0);
        due.illegalArgument("6: stream 3", () -> x.exactWeight(3, 0));
        due.illegalArgument("6: stream -1", () -> x.exactWeight(-1, 0));
        due.illegalArgument("6: group 4", () -> x.exactWeight(2, 4));
        due.illegalArgument("6: group -1", () -> x.exactWeight(0, -1));
    }
}
