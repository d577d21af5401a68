import java.util.List;

/** The edges of what the document is, of its streams, and of promises 1 to 6. */
final class StreamEdges extends Edges {
    StreamEdges(Due due, Document document) {
        super(due, document);
    }

    @Override
    List<Runnable> tests() {
        return List.of(
            this::diceAreTold,
            this::objectIsGoodForAllItsCalls,
            this::mergedSamples,
            this::streamsAreApart,
            this::stream2IsStream0ThenStream1,
            this::sameSizeForAllSamples,
            this::sameWindow,
            this::positionsCountOffers,
            this::leastAndGreatestOffer,
            this::newObject,
            this::beginEmptiesBothStreams,
            this::beginTakesSizes,
            this::beginTakesWindows,
            this::offerAnswersThePosition,
            this::offerHasBounds,
            this::clearEmptiesOneStream,
            this::clearTellsTheOffers,
            this::offersAreCounted,
            this::exactWeightIsASum);
    }

    private void diceAreTold() {
        whatItIs("1 to 25", "Samples from two streams of items, where all dice are told by the caller: a uniform "
            + "reservoir, a reservoir for each group, a sample by weights and priorities with estimates of sums, "
            + "a sample of distinct items with an estimate of their number, and a sample of the latest items by a "
            + "chain.");
        History history = History.begun(5, 9).offered(0, 121).offered(1, 120);
        for (int stream = 0; stream <= 2; stream++) {
            List<Call> questions = Questions.all(stream, 5);
            due.sameAnswers("the same calls once more", questions, history.answers(questions), history.answers(questions));
        }
    }

    private void objectIsGoodForAllItsCalls() {
        whatItIs("1 to 25",
            "An object is used for at most 512 calls after it has been made; what later calls answer is free.");
        ReservoirReed x = new ReservoirReed();
        for (int i = 1; i <= 300; i++) {
            due.same("an offer", x.offer(0, i, 1, 0, i, i), i);
        }
        for (int i = 1; i <= 211; i++) {
            due.same("an offer", x.offer(1, i, 1, 0, i, i), i);
        }
        due.same("offers, call 512", x.offers(2), 511);
        ReservoirReed refusing = new ReservoirReed();
        for (int i = 1; i <= 511; i++) {
            due.illegalArgument("a refused call", () -> refusing.offer(0, 1, 0, 0, 0, 0));
        }
        due.same("offer behind 511 refused calls", refusing.offer(0, 1, 1, 0, 0, 0), 1);
        ReservoirReed begun = new ReservoirReed();
        for (int i = 1; i <= 511; i++) {
            begun.begin(2 + i % 15, 1 + i % 64);
        }
        due.same("offer behind 511 times begin", begun.offer(1, 1, 1, 0, 0, 0), 1);
    }

    private void mergedSamples() {
        terms("12 to 21", "Samples by priorities and of distinct items can also be asked for both streams merged.");
        ReservoirReed x = new ReservoirReed();
        x.offer(0, 5, 7, 1, 0, 0);
        x.offer(1, 6, 3, 1, 0, 0);
        due.same("prioritySize", x.prioritySize(2), 2);
        due.same("priorityItem", x.priorityItem(2, 0), 5);
        due.same("estimatedWeight", x.estimatedWeight(2, 1), 3);
        due.same("threshold", x.threshold(2), 0);
        due.same("estimate", x.estimate(2, 1), 10);
        due.same("sampledWeight", x.sampledWeight(2, 1), 10);
        due.same("distinctSize", x.distinctSize(2), 2);
        due.same("distinctItem", x.distinctItem(2, 1), 6);
        due.same("distinctOffers", x.distinctOffers(2, 1), 1);
        due.same("distinctEstimate", x.distinctEstimate(2), 2);
    }

    private void streamsAreApart() {
        terms("3 to 25", "The streams are numbered 0 and 1.");
        for (int count : new int[] {1, 2, 3, 4, 150}) {
            for (int stream = 0; stream <= 1; stream++) {
                int other = 1 - stream;
                List<Call> questions = Questions.all(other, 3);
                History alone = History.begun(3, 5).offered(other, 100);
                due.sameAnswers("beside offers to " + stream, questions,
                    alone.offered(stream, count).answers(questions), alone.answers(questions));
                History none = History.begun(3, 5);
                due.sameAnswers("empty beside offers to " + stream, questions,
                    none.offered(stream, count).answers(questions), none.answers(questions));
            }
        }
        ReservoirReed x = new ReservoirReed();
        for (int wrong : new int[] {-1, 2}) {
            due.illegalArgument("offer, stream " + wrong, () -> x.offer(wrong, 1, 1, 0, 0, 0));
            due.illegalArgument("clear, stream " + wrong, () -> x.clear(wrong));
        }
    }

    private void stream2IsStream0ThenStream1() {
        terms("5, 6 and 12 to 21", "Where a method says so, stream 2 stands for both of them merged, as if all items of "
            + "stream 0 had been offered first, and then all items of stream 1, to one stream.");
        for (int k : new int[] {2, 3, 16}) {
            int[][] counts = {{0, 0}, {0, 1}, {1, 0}, {1, 1}, {k - 1, 1}, {1, k - 1}, {k, 0}, {0, k}, {k, 1}, {1, k},
                {k - 1, k - 1}, {k, k}, {k + 1, k + 1}, {299, 1}, {1, 299}, {150, 150}, {300, 0}, {0, 300}};
            for (int[] count : counts) {
                List<Call> both = Questions.merged(2, k);
                History laterFirst = History.begun(k, 8).offered(1, count[1], 7).offered(0, count[0], 8);
                History oneStream = History.begun(k, 8).offered(0, count[0], 8).offered(0, count[1], 7);
                due.sameAnswers(count[0] + " and " + count[1] + " offers, k = " + k, both,
                    laterFirst.answers(both), oneStream.answers(Questions.merged(0, k)));
            }
        }
    }

    private void sameSizeForAllSamples() {
        terms("2 and 7 to 21", "All samples of a stream have the same size k, from 2 to 16, and the same window w, from "
            + "1 to 64.");
        for (int k = 2; k <= 16; k++) {
            for (int stream = 0; stream <= 1; stream++) {
                sizes(begun(k, 8), stream, k);
            }
        }
    }

    private void sizes(ReservoirReed x, int stream, int k) {
        for (int i = 1; i <= 20; i++) {
            x.offer(stream, i, 1, 2, MOST, 0);
        }
        String what = ", stream " + stream + ", k = " + k;
        due.same("reservoirSize" + what, x.reservoirSize(stream), k);
        due.same("groupItem" + what, x.groupItem(stream, 2, k - 1) > 0 ? 1 : 0, 1);
        due.noSuchPlace("groupItem" + what, () -> x.groupItem(stream, 2, k));
        for (int asked : new int[] {stream, 2}) {
            due.same("prioritySize" + what, x.prioritySize(asked), k);
            due.same("distinctSize" + what, x.distinctSize(asked), k);
            due.noSuchPlace("priorityItem" + what, () -> x.priorityItem(asked, k));
            due.noSuchPlace("distinctItem" + what, () -> x.distinctItem(asked, k));
        }
    }

    private void sameWindow() {
        for (int w = 1; w <= 64; w++) {
            ReservoirReed x = begun(4, w);
            for (int i = 1; i <= 66; i++) {
                x.offer(0, i, 1, 0, 1, 0);
                x.offer(1, i, 1, 0, 1, w - 1);
            }
            due.same("chainLength, w = " + w, x.chainLength(0), w);
            due.same("windowPosition, w = " + w, x.windowPosition(0), 67 - w);
            x.clear(1);
            x.offer(1, 1, 1, 0, 0, w - 1);
            due.same("successor, w = " + w, x.successor(1), 1 + w);
            x.offer(1, 1, 1, 0, 0, w);
            due.same("successor, w = " + w, x.successor(1), 3);
        }
    }

    private void positionsCountOffers() {
        terms("3, 9 and 23", "The items of a stream are numbered from 1 in the order in which they are offered; that "
            + "number is called the position of the offer.");
        ReservoirReed x = begun(2, 1);
        for (int i = 1; i <= 200; i++) {
            due.same("offer to stream 0", x.offer(0, 9, 1, 0, i, 0), i);
            due.same("offer to stream 1", x.offer(1, 9, 1, 0, 1, 0), i);
        }
        due.same("reservoirPosition", x.reservoirPosition(0, 0), 200);
        due.same("windowPosition", x.windowPosition(1), 200);
        for (int i = 201; i <= 300; i++) {
            due.same("offer to stream 0", x.offer(0, 9, 1, 0, i, 0), i);
        }
        due.same("reservoirPosition at the last", x.reservoirPosition(0, 0), 300);
        due.same("windowPosition at the last", x.windowPosition(0), 300);
    }

    private void leastAndGreatestOffer() {
        terms("3, 8, 11, 13, 19 and 22", "An offer has an item (a number from 0 to 1000000, which may be offered several "
            + "times), a weight, a group from 0 to 3, and two dice, each an int of 0 or more.");
        ReservoirReed x = begun(2, 4);
        due.same("the least of all", x.offer(0, 0, 1, 0, 0, 0), 1);
        due.same("the greatest of all", x.offer(1, 1000000, 1000000, 3, MOST, MOST), 1);
        for (int stream = 0; stream <= 1; stream++) {
            int item = stream * 1000000;
            due.same("reservoirItem", x.reservoirItem(stream, 0), item);
            due.same("groupItem", x.groupItem(stream, 3 * stream, 0), item);
            due.same("priorityItem", x.priorityItem(stream, 0), item);
            due.same("distinctItem", x.distinctItem(stream, 0), item);
            due.same("windowItem", x.windowItem(stream), item);
        }
        due.same("the least weight", x.exactWeight(0, 0), 1);
        due.same("the greatest weight", x.exactWeight(1, 3), 1000000);
        due.same("both dice 0", x.successor(0), 2);
        due.same("the greatest second die, modulo 4", x.successor(1), 5);
        for (int i = 2; i <= 300; i++) {
            due.same("the same item again", x.offer(0, 0, 1, 0, 0, 0), i);
        }
        due.same("one item, 300 offers", x.distinctSize(0), 1);
    }

    // ---- promises 1 to 6

    private void newObject() {
        promise(1, "Creates two empty streams with k = 4 and w = 8.");
        ReservoirReed empty = new ReservoirReed();
        for (int stream = 0; stream <= 2; stream++) {
            isEmpty(empty, stream);
        }
        ReservoirReed x = new ReservoirReed();
        for (int i = 1; i <= 5; i++) {
            for (int stream = 0; stream <= 1; stream++) {
                x.offer(stream, i, 1, 0, i + 3, 0);
                due.same("reservoirSize", x.reservoirSize(stream), Math.min(i, 4));
                due.same("prioritySize", x.prioritySize(stream), Math.min(i, 4));
                due.same("distinctSize", x.distinctSize(stream), Math.min(i, 4));
                due.same("threshold is there", x.threshold(stream) > 0 ? 1 : 0, i > 4 ? 1 : 0);
            }
        }
        ReservoirReed y = new ReservoirReed();
        for (int i = 1; i <= 9; i++) {
            y.offer(1, i, 1, 0, 1, 0);
            due.same("chainLength", y.chainLength(1), Math.min(i, 8));
        }
        due.same("windowPosition, nine offers", y.windowPosition(1), 2);
        y.offer(1, 10, 1, 0, 8, 7);
        due.same("windowPosition, die 8 modulo 8", y.windowPosition(1), 10);
        due.same("successor, second die 7 modulo 8", y.successor(1), 18);
        y.offer(1, 11, 1, 0, 16, 8);
        due.same("successor, second die 8 modulo 8", y.successor(1), 12);
    }

    private void isEmpty(ReservoirReed x, int stream) {
        due.same("offers", x.offers(stream), 0);
        due.same("prioritySize", x.prioritySize(stream), 0);
        due.same("threshold", x.threshold(stream), 0);
        due.same("distinctSize", x.distinctSize(stream), 0);
        due.same("distinctEstimate", x.distinctEstimate(stream), 0);
        due.noSuchPlace("priorityItem", () -> x.priorityItem(stream, 0));
        due.noSuchPlace("estimatedWeight", () -> x.estimatedWeight(stream, 0));
        due.noSuchPlace("distinctItem", () -> x.distinctItem(stream, 0));
        due.noSuchPlace("distinctOffers", () -> x.distinctOffers(stream, 0));
        for (int group = 0; group <= 3; group++) {
            due.same("exactWeight", x.exactWeight(stream, group), 0);
            due.same("estimate", x.estimate(stream, group), 0);
            due.same("sampledWeight", x.sampledWeight(stream, group), 0);
        }
        if (stream < 2) {
            hasNoReservoirAndNoWindow(x, stream);
        }
    }

    private void hasNoReservoirAndNoWindow(ReservoirReed x, int stream) {
        due.same("reservoirSize", x.reservoirSize(stream), 0);
        due.noSuchPlace("reservoirItem", () -> x.reservoirItem(stream, 0));
        due.noSuchPlace("reservoirPosition", () -> x.reservoirPosition(stream, 0));
        for (int group = 0; group <= 3; group++) {
            int asked = group;
            due.same("groupOffers", x.groupOffers(stream, group), 0);
            due.noSuchPlace("groupItem", () -> x.groupItem(stream, asked, 0));
        }
        due.same("chainLength", x.chainLength(stream), 0);
        due.illegalState("windowItem", () -> x.windowItem(stream));
        due.illegalState("windowPosition", () -> x.windowPosition(stream));
        due.illegalState("successor", () -> x.successor(stream));
    }

    private void beginEmptiesBothStreams() {
        promise(2, "Starts again with two empty streams.");
        for (int[] count : new int[][] {{0, 0}, {1, 0}, {0, 1}, {2, 2}, {3, 3}, {17, 17}, {300, 0}, {0, 300}}) {
            ReservoirReed x = begun(2, 3);
            for (int i = 0; i < count[0]; i++) {
                x.offer(0, i, 1, i % 4, i, i);
            }
            for (int i = 0; i < count[1]; i++) {
                x.offer(1, i, 1, i % 4, i, i);
            }
            x.begin(2, 3);
            for (int stream = 0; stream <= 2; stream++) {
                isEmpty(x, stream);
            }
            due.same("stream 0 counts from 1", x.offer(0, 1, 1, 0, 0, 0), 1);
            due.same("stream 1 counts from 1", x.offer(1, 1, 1, 0, 0, 0), 1);
        }
        nothingIsLeftBehindBegin();
    }

    private void nothingIsLeftBehindBegin() {
        for (int stream = 0; stream <= 2; stream++) {
            List<Call> questions = Questions.all(stream, 5);
            History first = History.begun(5, 9).offered(0, 40).offered(1, 40);
            History again = History.begun(16, 64).offered(0, 100, 5).offered(1, 100, 6).then("begin", 5, 9)
                .offered(0, 40).offered(1, 40);
            due.sameAnswers("begin again, then offers", questions, again.answers(questions), first.answers(questions));
        }
    }

    private void beginTakesSizes() {
        promise(2, "size: the size k, 2 to 16");
        for (int k : new int[] {2, 3, 15, 16}) {
            ReservoirReed x = begun(k, 1);
            for (int i = 1; i <= 17; i++) {
                x.offer(0, i, 1, 1, 16, 0);
            }
            due.same("reservoirSize, k = " + k, x.reservoirSize(0), k);
            due.same("prioritySize, k = " + k, x.prioritySize(0), k);
            due.same("distinctSize, k = " + k, x.distinctSize(2), k);
        }
        for (int wrong : new int[] {1, 17, 0, -2, LEAST, MOST}) {
            due.illegalArgument("size " + wrong, () -> new ReservoirReed().begin(wrong, 1));
            due.illegalArgument("size " + wrong, () -> new ReservoirReed().begin(wrong, 64));
        }
    }

    private void beginTakesWindows() {
        promise(2, "window: the window w, 1 to 64");
        for (int w : new int[] {1, 2, 63, 64}) {
            ReservoirReed x = begun(16, w);
            for (int i = 1; i <= 65; i++) {
                x.offer(0, i, 1, 1, 1, 0);
            }
            due.same("chainLength, w = " + w, x.chainLength(0), w);
        }
        for (int wrong : new int[] {0, 65, -1, LEAST, MOST}) {
            due.illegalArgument("window " + wrong, () -> new ReservoirReed().begin(2, wrong));
            due.illegalArgument("window " + wrong, () -> new ReservoirReed().begin(16, wrong));
        }
    }

    private void offerAnswersThePosition() {
        promise(3, "Offers an item to a stream.");
        ReservoirReed x = begun(2, 1);
        x.offer(1, 77, 5, 3, 0, 0);
        due.same("the item is there", x.reservoirItem(1, 0), 77);
        due.same("its weight is there", x.exactWeight(1, 3), 5);
        due.same("the other stream has none", x.offers(0), 0);
        promise(3, "Returns position of the offer.");
        due.same("behind one offer", x.offer(1, 77, 5, 3, 0, 0), 2);
        due.same("the first", x.offer(0, 77, 5, 3, 0, 0), 1);
        for (int i = 2; i <= 300; i++) {
            due.same("position", x.offer(0, 1, 1, 0, 0, 0), i);
        }
        x.clear(0);
        due.same("behind clear", x.offer(0, 1, 1, 0, 0, 0), 1);
        due.same("in the stream that stays", x.offer(1, 1, 1, 0, 0, 0), 3);
        x.begin(2, 1);
        due.same("behind begin", x.offer(1, 1, 1, 0, 0, 0), 1);
    }

    private void offerHasBounds() {
        promise(3, "Throws IllegalStateException if the stream has had 300 offers");
        for (int stream = 0; stream <= 1; stream++) {
            int full = stream;
            int other = 1 - stream;
            ReservoirReed x = begun(2, 1);
            for (int i = 1; i <= 299; i++) {
                x.offer(full, 1, 1, 0, 0, 0);
            }
            due.same("behind 299", x.offer(full, 1, 1, 0, 0, 0), 300);
            due.illegalState("behind 300", () -> x.offer(full, 1, 1, 0, 0, 0));
            due.illegalState("behind 300, again", () -> x.offer(full, 1000000, 1000000, 3, MOST, MOST));
            due.same("the other stream", x.offer(other, 1, 1, 0, 0, 0), 1);
            due.illegalState("behind 300, still", () -> x.offer(full, 1, 1, 0, 0, 0));
            due.same("clear", x.clear(full), 300);
            due.same("room again behind clear", x.offer(full, 1, 1, 0, 0, 0), 1);
        }
    }

    private void clearEmptiesOneStream() {
        promise(4, "Makes a stream empty again.");
        for (int k : new int[] {2, 4}) {
            for (int count : new int[] {0, 1, k - 1, k, k + 1, 300}) {
                for (int stream = 0; stream <= 1; stream++) {
                    clearAndOffer(k, count, stream);
                }
            }
        }
        ReservoirReed x = new ReservoirReed();
        for (int i = 0; i < 300; i++) {
            x.offer(1, i, 1, i % 4, i, i);
        }
        x.clear(1);
        for (int stream = 0; stream <= 2; stream++) {
            isEmpty(x, stream);
        }
    }

    private void clearAndOffer(int k, int count, int stream) {
        History cleared = History.begun(k, 6).offered(1 - stream, 9).offered(stream, count).then("clear", stream);
        History never = History.begun(k, 6).offered(1 - stream, 9);
        for (int asked = 0; asked <= 2; asked++) {
            List<Call> questions = Questions.all(asked, k);
            String what = "clear(" + stream + ") behind " + count + " offers, k = " + k;
            due.sameAnswers(what, questions, cleared.answers(questions), never.answers(questions));
            due.sameAnswers(what + ", then offers", questions, cleared.offered(stream, 8, 99).answers(questions),
                never.offered(stream, 8, 99).answers(questions));
        }
    }

    private void clearTellsTheOffers() {
        promise(4, "Returns how many offers it had.");
        ReservoirReed x = begun(2, 1);
        for (int count : new int[] {0, 1, 2, 3, 300}) {
            x.clear(0);
            for (int i = 0; i < count; i++) {
                x.offer(0, 1, 1, 0, 0, 0);
            }
            due.same("clear(1) behind offers to 0", x.clear(1), 0);
            due.same("clear(0)", x.clear(0), count);
            due.same("clear(0), empty", x.clear(0), 0);
            x.offer(1, 1, 1, 0, 0, 0);
            due.same("clear(1)", x.clear(1), 1);
        }
    }

    private void offersAreCounted() {
        promise(5, "Returns how many offers a stream has had.");
        ReservoirReed x = begun(2, 1);
        due.same("none", x.offers(0), 0);
        for (int i = 1; i <= 200; i++) {
            x.offer(0, 1, 1, 0, 0, 0);
            due.same("each", x.offers(0), i);
        }
        for (int i = 201; i <= 300; i++) {
            x.offer(0, 1, 1, 0, 0, 0);
        }
        due.same("the most", x.offers(0), 300);
        due.same("the other stream", x.offers(1), 0);
        promise(5, "Returns the number; for stream 2 of both together.");
        due.same("both, one of them empty", x.offers(2), 300);
        x.offer(1, 1, 1, 0, 0, 0);
        due.same("both", x.offers(2), 301);
        x.clear(0);
        due.same("both, the other empty", x.offers(2), 1);
        ReservoirReed y = new ReservoirReed();
        due.same("both empty", y.offers(2), 0);
        for (int i = 0; i < 510; i++) {
            y.offer(i % 300 == i ? 0 : 1, 1, 1, 0, 0, 0);
        }
        due.same("the most of both together", y.offers(2), 510);
    }

    private void exactWeightIsASum() {
        promise(6, "Returns the exact sum of the weights of all offers of a group.");
        ReservoirReed x = begun(2, 1);
        due.same("of none", x.exactWeight(0, 2), 0);
        x.offer(0, 1, 1, 2, 0, 0);
        due.same("of one, the least", x.exactWeight(0, 2), 1);
        x.offer(0, 1, 1000000, 2, MOST, 0);
        x.offer(0, 1, 30, 2, MOST, 0);
        due.same("also what no sample holds", x.exactWeight(0, 2), 1000031);
        for (int group = 0; group <= 3; group++) {
            due.same("another group", x.exactWeight(0, group), group == 2 ? 1000031 : 0);
            due.same("another stream", x.exactWeight(1, group), 0);
        }
        promise(6, "Returns the sum.");
        for (int group = 0; group <= 3; group++) {
            ReservoirReed y = begun(2, 1);
            for (int i = 1; i <= 300; i++) {
                y.offer(0, 1, 1000000, group, 0, 0);
            }
            due.same("the greatest of a stream", y.exactWeight(0, group), 300000000);
            due.same("both, one of them empty", y.exactWeight(2, group), 300000000);
            for (int i = 1; i <= 208; i++) {
                y.offer(1, 1, 1000000, group, 0, 0);
            }
            due.same("the greatest of both", y.exactWeight(2, group), 508000000);
        }
    }
}
