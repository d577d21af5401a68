/** Promises 22 to 25: windowItem, windowPosition, chainLength, successor. */
public final class WindowTest {
    private static final Due due = new Due();

    public static void main(String[] args) {
        chain();
        restart();
        successorIsModuloWindow();
        longestChain();
        leastWindow();
        streamsApart();
        wrongCalls();
        due.end("WindowTest");
    }

    private static void state(String what, ReservoirReed x, int item, int position, int length, int next) {
        due.same("22: " + what, x.windowItem(0), item);
        due.same("23: " + what, x.windowPosition(0), position);
        due.same("24: " + what, x.chainLength(0), length);
        due.same("25: " + what, x.successor(0), next);
    }

    private static void chain() {
        ReservoirReed x = new ReservoirReed();
        x.begin(4, 3);
        due.same("24: empty", x.chainLength(0), 0);
        x.offer(0, 10, 1, 0, 7, 1);
        state("the first offer", x, 10, 1, 1, 3);
        x.offer(0, 20, 1, 0, 1, 0);
        state("not the successor", x, 10, 1, 1, 3);
        x.offer(0, 30, 1, 0, 4, 0);
        state("the successor", x, 10, 1, 2, 4);
        x.offer(0, 40, 1, 0, 2, 2);
        state("the first one leaves the window", x, 30, 3, 2, 7);
        x.offer(0, 50, 1, 0, 2, 0);
        state("nothing", x, 30, 3, 2, 7);
        x.offer(0, 60, 1, 0, 2, 0);
        state("one leaves", x, 40, 4, 1, 7);
        x.offer(0, 70, 1, 0, 2, 0);
        state("added as the only one leaves", x, 70, 7, 1, 8);
    }

    private static void restart() {
        ReservoirReed x = new ReservoirReed();
        x.begin(4, 4);
        x.offer(0, 1, 1, 0, 0, 0);
        x.offer(0, 2, 1, 0, 3, 0);
        state("die 3 modulo 2", x, 1, 1, 2, 3);
        x.offer(0, 3, 1, 0, 3, 3);
        state("die 3 modulo 3 starts again, though the successor", x, 3, 3, 1, 7);
        x.offer(0, 4, 1, 0, 5, 0);
        x.offer(0, 5, 1, 0, 5, 0);
        state("die 5 modulo 4, not modulo 5", x, 3, 3, 1, 7);
        x.offer(0, 6, 1, 0, 4, 0);
        state("die 4 modulo 4, not modulo 6", x, 6, 6, 1, 7);
        x.offer(0, 7, 1, 0, 0, 1);
        state("die 0", x, 7, 7, 1, 9);
    }

    private static void successorIsModuloWindow() {
        ReservoirReed x = new ReservoirReed();
        x.begin(4, 64);
        x.offer(0, 1, 1, 0, 0, 63);
        state("second die 63", x, 1, 1, 1, 65);
        x.offer(0, 2, 1, 0, 0, 64);
        state("second die 64", x, 2, 2, 1, 3);
        x.offer(0, 3, 1, 0, 0, Integer.MAX_VALUE);
        state("greatest second die", x, 3, 3, 1, 67);
        for (int i = 4; i <= 66; i++) {
            x.offer(0, i, 1, 0, 1, 0);
        }
        state("still in the window", x, 3, 3, 1, 67);
        x.offer(0, 67, 1, 0, 1, 5);
        state("the successor comes in time", x, 67, 67, 1, 73);
    }

    private static void longestChain() {
        ReservoirReed x = new ReservoirReed();
        x.begin(4, 64);
        for (int i = 1; i <= 64; i++) {
            x.offer(0, i, 1, 0, 1, 0);
        }
        state("64 long", x, 1, 1, 64, 65);
        for (int i = 65; i <= 300; i++) {
            x.offer(0, i, 1, 0, 1, 0);
        }
        state("64 long at the last offer", x, 237, 237, 64, 301);
    }

    private static void leastWindow() {
        ReservoirReed x = new ReservoirReed();
        x.begin(4, 1);
        x.offer(0, 8, 1, 0, 5, 9);
        state("window 1", x, 8, 1, 1, 2);
        x.offer(0, 9, 1, 0, 5, 9);
        state("window 1", x, 9, 2, 1, 3);
    }

    private static void streamsApart() {
        ReservoirReed x = new ReservoirReed();
        x.offer(0, 8, 1, 0, 5, 1);
        x.offer(1, 9, 1, 0, 5, 7);
        x.offer(1, 10, 1, 0, 5, 7);
        state("stream 0", x, 8, 1, 1, 3);
        due.same("22: stream 1", x.windowItem(1), 9);
        due.same("25: stream 1", x.successor(1), 9);
    }

    private static void wrongCalls() {
        ReservoirReed x = new ReservoirReed();
        x.offer(0, 1, 1, 0, 0, 0);
        for (int wrong : new int[] {-1, 2, 3, Integer.MAX_VALUE, Integer.MIN_VALUE}) {
            due.illegalArgument("22: stream", () -> x.windowItem(wrong));
            due.illegalArgument("23: stream", () -> x.windowPosition(wrong));
            due.illegalArgument("24: stream", () -> x.chainLength(wrong));
            due.illegalArgument("25: stream", () -> x.successor(wrong));
        }
        due.illegalState("22: no offers", () -> x.windowItem(1));
        due.illegalState("23: no offers", () -> x.windowPosition(1));
        due.illegalState("25: no offers", () -> x.successor(1));
        due.same("24: no offers", x.chainLength(1), 0);
    }
}
