import java.util.List;

/** The edges of the window sample, and of promises 22 to 25. */
final class WindowEdges extends Edges {
    WindowEdges(Due due, Document document) {
        super(due, document);
    }

    @Override
    List<Runnable> tests() {
        return List.of(
            this::sampleIsTheChainsFirst,
            this::sampleIsAmongTheLatest,
            this::stepsInTheirOrder,
            this::chainStartsAgain,
            this::smallerWindowAtTheFirstOffers,
            this::successorIsAdded,
            this::successorOfEachOffer,
            this::firstOneLeaves,
            this::neverEmpty,
            this::windowItems,
            this::windowItemNeedsAnOffer,
            this::windowPositions,
            this::windowPositionNeedsAnOffer,
            this::chainLengths,
            this::successors,
            this::successorNeedsAnOffer);
    }

    private void state(String what, ReservoirReed x, int item, int position, int length, int next) {
        due.same(what + ", windowItem", x.windowItem(0), item);
        due.same(what + ", windowPosition", x.windowPosition(0), position);
        due.same(what + ", chainLength", x.chainLength(0), length);
        due.same(what + ", successor", x.successor(0), next);
    }

    // The first die 1 starts the chain again at position 1 and, with a window of 1, at any other.
    private static ReservoirReed linked(int window, int count) {
        ReservoirReed x = begun(2, window);
        for (int i = 1; i <= count; i++) {
            x.offer(0, 1000 + i, 1, 0, 1, 0);
        }
        return x;
    }

    private void sampleIsTheChainsFirst() {
        terms("22 to 25", "The window sample is one of the latest w offers, kept by a chain, which is a list of offers by "
            + "rising position; the first one is the sample, and each has a successor, which is a position.");
        ReservoirReed x = begun(2, 4);
        x.offer(0, 70, 1, 0, 0, 1);
        state("the only one", x, 70, 1, 1, 3);
        x.offer(0, 80, 1, 0, 1, 3);
        state("not in the chain", x, 70, 1, 1, 3);
        x.offer(0, 90, 1, 0, 1, 2);
        state("two", x, 70, 1, 2, 6);
        x.offer(0, 91, 1, 0, 1, 0);
        state("the first one is among the latest 4", x, 70, 1, 2, 6);
        x.offer(0, 92, 1, 0, 1, 0);
        state("the first one is not", x, 90, 3, 1, 6);
        x.offer(0, 93, 1, 0, 1, 0);
        state("two again", x, 90, 3, 2, 7);
    }

    private void sampleIsAmongTheLatest() {
        for (int w = 1; w <= 64; w++) {
            ReservoirReed x = begun(2, w);
            for (int n = 1; n <= 300; n++) {
                x.offer(0, 1000 + n, 1, 0, n % 97 == 0 ? 0 : 1, n % 5);
                if (n > 240) {
                    int position = x.windowPosition(0);
                    due.same("one of the latest " + w + " at " + n, position > n - w && position <= n ? 1 : 0, 1);
                    due.same("its item", x.windowItem(0), 1000 + position);
                }
            }
        }
    }

    private void stepsInTheirOrder() {
        terms("22 to 25", "When an offer at the position n comes, these steps are taken.");
        for (int w = 2; w <= 64; w++) {
            ReservoirReed x = begun(2, w);
            for (int n = 1; n <= w; n++) {
                x.offer(0, n, 1, 0, 1, w - 1);
            }
            state("alone, w = " + w, x, 1, 1, 1, 1 + w);
            x.offer(0, 1 + w, 1, 0, 1, w - 1);
            state("added, and then the first one removed, w = " + w, x, 1 + w, 1 + w, 1, 1 + 2 * w);
        }
    }

    private void chainStartsAgain() {
        terms("22 to 25", "First: if its first die modulo min(n, w) is 0, the chain becomes that offer alone; otherwise, "
            + "if n is the successor of the last offer of the chain, the offer is added to the end of the chain.");
        for (int w : new int[] {2, 3, 8, 63, 64}) {
            for (int n : new int[] {2, w - 1, w, w + 1, w + 2, 299, 300}) {
                if (n >= 2) {
                    int modulus = Math.min(n, w);
                    startsAgain(w, n, 0, true);
                    startsAgain(w, n, 1, false);
                    startsAgain(w, n, modulus - 1, false);
                    startsAgain(w, n, modulus, true);
                    startsAgain(w, n, modulus + 1, false);
                    startsAgain(w, n, n, n % modulus == 0);
                    startsAgain(w, n, MOST, MOST % modulus == 0);
                    startsAgain(w, n, MOST - MOST % modulus, true);
                    startsAgain(w, n, MOST - MOST % modulus - 1, false);
                }
            }
        }
    }

    // Each offer is the successor of the one before it: the chain is as long as it can be.
    private void startsAgain(int w, int n, int die, boolean alone) {
        ReservoirReed x = linked(w, n - 1);
        x.offer(0, 5000, 1, 0, die, 0);
        String what = "w = " + w + ", n = " + n + ", die " + die;
        int length = alone ? 1 : Math.min(n, w);
        int position = n + 1 - length;
        state(what, x, position == n ? 5000 : 1000 + position, position, length, n + 1);
    }

    private void smallerWindowAtTheFirstOffers() {
        for (int n = 1; n <= 70; n++) {
            ReservoirReed x = linked(64, n - 1);
            x.offer(0, 5000, 1, 0, 2 * Math.min(n, 64), 7);
            state("alone at " + n, x, 5000, n, 1, n + 8);
        }
        ReservoirReed y = begun(2, 1);
        for (int n = 1; n <= 100; n++) {
            y.offer(0, n, 1, 0, n == 50 ? MOST : n, n);
            state("window 1: always alone", y, n, n, 1, n + 1);
        }
    }

    private void successorIsAdded() {
        for (int gap = 1; gap <= 6; gap++) {
            for (int n = 2; n <= 8; n++) {
                ReservoirReed x = begun(2, 64);
                x.offer(0, 1, 1, 0, 0, gap - 1);
                for (int i = 2; i <= n; i++) {
                    x.offer(0, i, 1, 0, 1, 63);
                }
                boolean added = n >= 1 + gap;
                state("successor " + (1 + gap) + " at " + n, x, 1, 1, added ? 2 : 1, added ? 65 + gap : 1 + gap);
            }
        }
    }

    private void successorOfEachOffer() {
        terms("25", "In both cases the successor of the offer is n + 1 + (second die modulo w).");
        for (int w : new int[] {1, 2, 3, 63, 64}) {
            for (int die : new int[] {0, 1, w - 1, w, w + 1, 2 * w - 1, MOST - 1, MOST}) {
                for (int n : new int[] {1, 2, w, w + 1, 300}) {
                    ReservoirReed alone = linked(w, n - 1);
                    alone.offer(0, 5000, 1, 0, 0, die);
                    due.same("alone, w = " + w + ", n = " + n + ", die " + die, alone.successor(0), n + 1 + die % w);
                    ReservoirReed added = linked(w, n - 1);
                    added.offer(0, 5000, 1, 0, 1, die);
                    due.same("added, w = " + w + ", n = " + n + ", die " + die, added.successor(0), n + 1 + die % w);
                }
            }
        }
    }

    private void firstOneLeaves() {
        terms("22 to 24", "Then, as long as the position of the first offer of the chain is n - w or less, that first "
            + "offer is removed.");
        for (int w = 2; w <= 64; w++) {
            ReservoirReed x = linked(w, 2);
            for (int n = 3; n <= w; n++) {
                x.offer(0, 1000 + n, 1, 0, 1, 0);
                due.same("the first one stays at " + n + ", w = " + w, x.windowPosition(0), 1);
            }
            due.same("chainLength, the latest w offers, w = " + w, x.chainLength(0), w);
            x.offer(0, 1001 + w, 1, 0, 1, 0);
            state("the first one leaves at w + 1, w = " + w, x, 1002, 2, w, w + 2);
            x.offer(0, 1002 + w, 1, 0, 1, 0);
            state("and then the next one, w = " + w, x, 1003, 3, w, w + 3);
        }
        ReservoirReed y = linked(64, 300);
        state("at the last offer", y, 1237, 237, 64, 301);
    }

    private void neverEmpty() {
        terms("24", "The chain is never empty behind an offer.");
        for (int w = 1; w <= 64; w++) {
            for (int die : new int[] {0, w / 2, w - 1}) {
                ReservoirReed x = begun(2, w);
                for (int n = 1; n <= 250; n++) {
                    x.offer(1, n, 1, 0, 1, die);
                    due.same("not empty at " + n + ", w = " + w, x.chainLength(1) > 0 ? 1 : 0, 1);
                }
                ReservoirReed y = begun(2, w);
                for (int n = 1; n <= 300; n++) {
                    y.offer(1, n, 1, 0, n == 1 ? 0 : 1, die);
                }
                due.same("not empty at 300, w = " + w, y.chainLength(1) > 0 ? 1 : 0, 1);
            }
        }
    }

    // ---- promises 22 to 25

    private void windowItems() {
        promise(22, "Returns the item of the window sample.");
        ReservoirReed x = linked(3, 3);
        due.same("the first of three", x.windowItem(0), 1001);
        promise(22, "Returns the item.");
        x.offer(0, 1000000, 1, 0, 0, 0);
        due.same("the greatest item", x.windowItem(0), 1000000);
        x.offer(0, 0, 1, 0, 0, 0);
        due.same("the least item", x.windowItem(0), 0);
    }

    private void windowItemNeedsAnOffer() {
        ReservoirReed x = begun(2, 3);
        x.offer(0, 0, 1, 0, 0, 0);
        promise(22, "Throws IllegalStateException if the stream has had no offers");
        due.illegalState("stream 1", () -> x.windowItem(1));
        x.offer(1, 8, 1, 0, 1, 0);
        due.same("behind one offer", x.windowItem(1), 8);
        x.clear(1);
        due.illegalState("behind clear", () -> x.windowItem(1));
        due.same("the other stream", x.windowItem(0), 0);
        x.begin(2, 3);
        due.illegalState("behind begin", () -> x.windowItem(0));
    }

    private void windowPositions() {
        promise(23, "Returns the position of the window sample.");
        ReservoirReed x = linked(3, 5);
        due.same("the first of three", x.windowPosition(0), 3);
        promise(23, "Returns the position of its offer.");
        ReservoirReed y = linked(64, 299);
        y.offer(0, 1, 1, 0, 0, 0);
        due.same("the greatest position", y.windowPosition(0), 300);
        due.same("the least position", linked(64, 64).windowPosition(0), 1);
    }

    private void windowPositionNeedsAnOffer() {
        ReservoirReed x = linked(3, 5);
        promise(23, "Throws IllegalStateException if the stream has had no offers");
        due.illegalState("stream 1", () -> x.windowPosition(1));
        x.offer(1, 8, 1, 0, 1, 0);
        due.same("behind one offer", x.windowPosition(1), 1);
        x.clear(1);
        due.illegalState("behind clear", () -> x.windowPosition(1));
        due.same("the other stream", x.windowPosition(0), 3);
        x.begin(2, 3);
        due.illegalState("behind begin", () -> x.windowPosition(0));
    }

    private void chainLengths() {
        promise(24, "Returns how many offers the chain has.");
        ReservoirReed x = begun(2, 64);
        due.same("none", x.chainLength(0), 0);
        for (int n = 1; n <= 66; n++) {
            x.offer(0, 1, 1, 0, 1, 0);
            due.same("behind offer " + n, x.chainLength(0), Math.min(n, 64));
        }
        promise(24, "Returns the number.");
        x.offer(0, 1, 1, 0, 2, 1);
        due.same("the greatest number", x.chainLength(0), 64);
        x.offer(0, 1, 1, 0, 1, 0);
        due.same("one leaves, none comes", x.chainLength(0), 63);
        x.offer(0, 1, 1, 0, 64, 0);
        due.same("alone", x.chainLength(0), 1);
        due.same("the other stream", x.chainLength(1), 0);
        x.clear(0);
        due.same("behind clear", x.chainLength(0), 0);
    }

    private void successors() {
        promise(25, "Returns the successor of the last offer of the chain.");
        ReservoirReed x = begun(2, 5);
        x.offer(0, 1, 1, 0, 0, 0);
        due.same("of one", x.successor(0), 2);
        x.offer(0, 1, 1, 0, 1, 2);
        due.same("of the second", x.successor(0), 5);
        x.offer(0, 1, 1, 0, 1, 0);
        due.same("not of one that is not in the chain", x.successor(0), 5);
        promise(25, "Returns the position.");
        ReservoirReed y = begun(2, 64);
        y.offer(0, 1, 1, 0, 0, 0);
        due.same("the least", y.successor(0), 2);
        ReservoirReed z = linked(64, 299);
        z.offer(0, 1, 1, 0, 0, 63);
        due.same("the greatest", z.successor(0), 364);
    }

    private void successorNeedsAnOffer() {
        ReservoirReed x = begun(2, 5);
        x.offer(0, 1, 1, 0, 0, 3);
        promise(25, "Throws IllegalStateException if the stream has had no offers");
        due.illegalState("stream 1", () -> x.successor(1));
        x.offer(1, 8, 1, 0, 1, 4);
        due.same("behind one offer", x.successor(1), 6);
        x.clear(1);
        due.illegalState("behind clear", () -> x.successor(1));
        due.same("the other stream", x.successor(0), 5);
        x.begin(2, 5);
        due.illegalState("behind begin", () -> x.successor(0));
    }
}
