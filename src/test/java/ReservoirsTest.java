/** Promises 7 to 11: reservoirSize, reservoirItem, reservoirPosition, groupOffers, groupItem. */
public final class ReservoirsTest {
    private static final Due due = new Due();

    public static void main(String[] args) {
        reservoir();
        largeDice();
        wrongReservoirCalls();
        groups();
        wrongGroupCalls();
        due.end("ReservoirsTest");
    }

    private static void reservoir() {
        ReservoirReed x = new ReservoirReed();
        x.begin(2, 8);
        due.same("7: empty", x.reservoirSize(0), 0);
        x.offer(0, 10, 1, 0, 1, 0);
        due.same("7: one", x.reservoirSize(0), 1);
        x.offer(0, 20, 1, 0, 0, 0);
        due.same("7: full", x.reservoirSize(0), 2);
        due.same("8: the first ones do not look at the die", x.reservoirItem(0, 0), 10);
        due.same("8: slot 1", x.reservoirItem(0, 1), 20);
        x.offer(0, 30, 1, 0, 2, 0);
        due.same("8: die 2 of 3 replaces none", x.reservoirItem(0, 0), 10);
        due.same("8: die 2 of 3 replaces none", x.reservoirItem(0, 1), 20);
        x.offer(0, 40, 1, 0, 5, 0);
        due.same("8: die 5 of 4 replaces slot 1", x.reservoirItem(0, 1), 40);
        due.same("9: its position", x.reservoirPosition(0, 1), 4);
        due.same("9: slot 0 stays", x.reservoirPosition(0, 0), 1);
        x.offer(0, 40, 1, 0, 10, 0);
        due.same("8: die 10 of 5 replaces slot 0", x.reservoirItem(0, 0), 40);
        due.same("9: its position", x.reservoirPosition(0, 0), 5);
        due.same("7: never more than k", x.reservoirSize(0), 2);
        due.same("7: the other stream", x.reservoirSize(1), 0);
    }

    private static void largeDice() {
        ReservoirReed x = new ReservoirReed();
        x.begin(3, 8);
        for (int i = 1; i <= 4; i++) {
            x.offer(1, i, 1, 0, 3, 0);
        }
        x.offer(1, 5, 1, 0, Integer.MAX_VALUE, 0);
        due.same("9: 2147483647 modulo 5 is 2", x.reservoirPosition(1, 2), 5);
        due.same("9: slot 0", x.reservoirPosition(1, 0), 1);
        due.same("9: slot 1", x.reservoirPosition(1, 1), 2);
    }

    private static void wrongReservoirCalls() {
        ReservoirReed x = new ReservoirReed();
        x.offer(0, 10, 1, 0, 0, 0);
        due.illegalArgument("7: stream 2", () -> x.reservoirSize(2));
        due.illegalArgument("7: stream -1", () -> x.reservoirSize(-1));
        due.illegalArgument("8: stream 2", () -> x.reservoirItem(2, 0));
        due.illegalArgument("8: stream before slot", () -> x.reservoirItem(-1, -1));
        due.noSuchPlace("8: slot 1 of 1", () -> x.reservoirItem(0, 1));
        due.noSuchPlace("8: slot -1", () -> x.reservoirItem(0, -1));
        due.noSuchPlace("8: slot 0 of none", () -> x.reservoirItem(1, 0));
        due.noSuchPlace("8: slot MAX", () -> x.reservoirItem(0, Integer.MAX_VALUE));
        due.illegalArgument("9: stream 2", () -> x.reservoirPosition(2, 0));
        due.illegalArgument("9: stream before slot", () -> x.reservoirPosition(3, 9));
        due.noSuchPlace("9: slot 1 of 1", () -> x.reservoirPosition(0, 1));
        due.noSuchPlace("9: slot -1", () -> x.reservoirPosition(0, -1));
        due.noSuchPlace("9: slot MIN", () -> x.reservoirPosition(0, Integer.MIN_VALUE));
        for (int i = 0; i < 9; i++) {
            x.offer(0, i, 1, 0, 0, 0);
        }
        due.noSuchPlace("8: slot k", () -> x.reservoirItem(0, 4));
        due.noSuchPlace("9: slot k", () -> x.reservoirPosition(0, 4));
        due.noSuchPlace("11: slot k", () -> x.groupItem(0, 0, 4));
    }

    private static void groups() {
        ReservoirReed x = new ReservoirReed();
        x.begin(2, 8);
        for (int i = 1; i <= 10; i++) {
            x.offer(0, i, 1, 3, 9, 0);
        }
        for (int group = 0; group <= 2; group++) {
            due.same("10: none", x.groupOffers(0, group), 0);
        }
        due.same("10: ten", x.groupOffers(0, 3), 10);
        x.offer(0, 100, 1, 0, 5, 0);
        x.offer(0, 101, 1, 0, 5, 0);
        due.same("10: two", x.groupOffers(0, 0), 2);
        due.same("11: the first ones", x.groupItem(0, 0, 0), 100);
        due.same("11: the first ones", x.groupItem(0, 0, 1), 101);
        x.offer(0, 102, 1, 0, 4, 0);
        due.same("11: die 4 modulo 3, not modulo 13", x.groupItem(0, 0, 1), 102);
        due.same("11: slot 0 stays", x.groupItem(0, 0, 0), 100);
        x.offer(0, 103, 1, 0, 14, 0);
        due.same("11: die 14 modulo 4 replaces none", x.groupItem(0, 0, 0), 100);
        due.same("11: die 14 modulo 4 replaces none", x.groupItem(0, 0, 1), 102);
        due.same("8: but modulo 14 slot 0 of the stream", x.reservoirItem(0, 0), 103);
        due.same("11: group 3, die 9", x.groupItem(0, 3, 0), 9);
        due.same("11: group 3, die 9", x.groupItem(0, 3, 1), 8);
        due.same("10: the other stream", x.groupOffers(1, 0), 0);
    }

    private static void wrongGroupCalls() {
        ReservoirReed x = new ReservoirReed();
        x.offer(0, 10, 1, 1, 0, 0);
        due.illegalArgument("10: stream 2", () -> x.groupOffers(2, 0));
        due.illegalArgument("10: stream -1", () -> x.groupOffers(-1, 0));
        due.illegalArgument("10: group 4", () -> x.groupOffers(0, 4));
        due.illegalArgument("10: group -1", () -> x.groupOffers(0, -1));
        due.illegalArgument("11: stream 2", () -> x.groupItem(2, 1, 0));
        due.illegalArgument("11: group 4 before slot", () -> x.groupItem(0, 4, 9));
        due.illegalArgument("11: group -1 before slot", () -> x.groupItem(0, -1, -1));
        due.noSuchPlace("11: slot 0 of none", () -> x.groupItem(0, 0, 0));
        due.noSuchPlace("11: slot 1 of 1", () -> x.groupItem(0, 1, 1));
        due.noSuchPlace("11: slot -1", () -> x.groupItem(0, 1, -1));
    }
}
