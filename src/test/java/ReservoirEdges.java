import java.util.List;

/** The edges of the reservoirs, and of promises 7 to 11. */
final class ReservoirEdges extends Edges {
    ReservoirEdges(Due due, Document document) {
        super(due, document);
    }

    @Override
    List<Runnable> tests() {
        return List.of(
            this::kSlots,
            this::firstOffersFillTheSlots,
            this::laterOffersReplace,
            this::laterOffersReplaceAtEveryPosition,
            this::groupsHaveReservoirsOfTheirOwn,
            this::groupPositionsCountWithinTheGroup,
            this::filledSlots,
            this::items,
            this::positions,
            this::groupOffers,
            this::groupItems);
    }

    private void kSlots() {
        terms("7, 8 and 9", "The reservoir has k slots.");
        for (int k = 2; k <= 16; k++) {
            for (int count : new int[] {k - 1, k, k + 1, 300}) {
                ReservoirReed x = begun(k, 8);
                for (int i = 1; i <= count; i++) {
                    x.offer(1, i, 1, 0, i, 0);
                }
                int slots = Math.min(count, k);
                String what = count + " offers, k = " + k;
                due.same("reservoirSize, " + what, x.reservoirSize(1), slots);
                due.same("the last slot, " + what, x.reservoirItem(1, slots - 1), slots);
                due.noSuchPlace("reservoirItem, " + what, () -> x.reservoirItem(1, slots));
                due.noSuchPlace("reservoirPosition, " + what, () -> x.reservoirPosition(1, slots));
            }
        }
    }

    private void firstOffersFillTheSlots() {
        terms("8 and 9", "The offers at the positions 1 to k are put into the slots 0 to k - 1.");
        for (int k = 2; k <= 16; k++) {
            for (int die : new int[] {0, 1, k - 1, k, MOST}) {
                ReservoirReed x = begun(k, 8);
                for (int i = 1; i <= k; i++) {
                    x.offer(0, 100 + i, 1, 0, die, 0);
                    due.same("the latest offer's slot, die " + die, x.reservoirPosition(0, i - 1), i);
                }
                for (int slot = 0; slot < k; slot++) {
                    due.same("item of slot " + slot + ", die " + die, x.reservoirItem(0, slot), 101 + slot);
                    due.same("position of slot " + slot + ", die " + die, x.reservoirPosition(0, slot), slot + 1);
                }
            }
        }
    }

    private void laterOffersReplace() {
        terms("8 and 9", "For an offer at a later position n, let s be its first die modulo n: if s is less than k, the "
            + "offer replaces the one in slot s.");
        for (int k = 2; k <= 16; k++) {
            for (int n : new int[] {k + 1, k + 2, 299, 300}) {
                replaced(k, n, 0, 0);
                replaced(k, n, k - 1, k - 1);
                replaced(k, n, k, -1);
                replaced(k, n, n - 1, -1);
                replaced(k, n, n, 0);
                replaced(k, n, n + k - 1, k - 1);
                replaced(k, n, n + k, -1);
                replaced(k, n, MOST, MOST % n < k ? MOST % n : -1);
                replaced(k, n, MOST - MOST % n, 0);
                replaced(k, n, MOST - MOST % n - 1, -1);
            }
        }
    }

    // All offers before the one at position n are such that none behind the first k has replaced one.
    private void replaced(int k, int n, int die, int slot) {
        ReservoirReed x = begun(k, 8);
        for (int i = 1; i < n; i++) {
            x.offer(0, i, 1, 0, i - 1, 0);
        }
        x.offer(0, 5000, 1, 0, die, 0);
        for (int i = 0; i < k; i++) {
            String what = "slot " + i + ", k = " + k + ", n = " + n + ", die " + die;
            due.same(what, x.reservoirItem(0, i), i == slot ? 5000 : i + 1);
            due.same(what, x.reservoirPosition(0, i), i == slot ? n : i + 1);
        }
    }

    private void laterOffersReplaceAtEveryPosition() {
        ReservoirReed x = begun(2, 8);
        int[] held = {1, 2};
        for (int n = 1; n <= 300; n++) {
            x.offer(1, n, 1, 0, MOST, 0);
            if (n > 2 && MOST % n < 2) {
                held[MOST % n] = n;
                due.same("the greatest die at " + n, x.reservoirPosition(1, MOST % n), n);
            }
        }
        due.same("slot 0", x.reservoirItem(1, 0), held[0]);
        due.same("slot 1", x.reservoirItem(1, 1), held[1]);
    }

    private void groupsHaveReservoirsOfTheirOwn() {
        terms("10 and 11", "Each group has a reservoir of its own, to which only the offers of that group are given, with "
            + "positions counted from 1 within the group, by the same rule and with the same first die.");
        for (int stream = 0; stream <= 1; stream++) {
            ReservoirReed x = begun(3, 8);
            for (int i = 0; i < 20; i++) {
                x.offer(stream, 10 * (i % 4) + i / 4, 1, i % 4, i / 4, 0);
            }
            for (int group = 0; group <= 3; group++) {
                due.same("groupOffers", x.groupOffers(stream, group), 5);
                for (int slot = 0; slot <= 2; slot++) {
                    due.same("group " + group + ", slot " + slot, x.groupItem(stream, group, slot), 10 * group + slot);
                }
            }
            x.offer(stream, 500, 1, 2, 6, 0);
            due.same("die 6 modulo 6, slot 0", x.groupItem(stream, 2, 0), 500);
            due.same("another group's slot 0", x.groupItem(stream, 1, 0), 10);
            due.same("and the next one's", x.groupItem(stream, 3, 0), 30);
        }
    }

    // In front of the group there are k offers of another one: so its offer k + 1 stands at 2k + 1.
    private void groupPositionsCountWithinTheGroup() {
        for (int k = 2; k <= 16; k++) {
            for (int group = 0; group <= 3; group++) {
                groupReplaced(k, group, 2 * k + 1, -1, 0);
                groupReplaced(k, group, k + 1, 0, -1);
                groupReplaced(k, group, 2 * k, k - 1, -1);
                groupReplaced(k, group, k - 1, k - 1, k - 1);
                groupReplaced(k, group, k, -1, -1);
                groupReplaced(k, group, MOST, slotOr(MOST % (k + 1), k), slotOr(MOST % (2 * k + 1), k));
            }
        }
    }

    private static int slotOr(int slot, int k) {
        return slot < k ? slot : -1;
    }

    private void groupReplaced(int k, int group, int die, int slotOfGroup, int slotOfStream) {
        ReservoirReed x = begun(k, 8);
        for (int i = 1; i <= k; i++) {
            x.offer(0, i, 1, (group + 1) % 4, 0, 0);
        }
        for (int i = 1; i <= k; i++) {
            x.offer(0, 100 + i, 1, group, k + i - 1, 0);
        }
        x.offer(0, 5000, 1, group, die, 0);
        for (int i = 0; i < k; i++) {
            String what = "slot " + i + ", k = " + k + ", group " + group + ", die " + die;
            due.same("group's " + what, x.groupItem(0, group, i), i == slotOfGroup ? 5000 : 101 + i);
            due.same("stream's " + what, x.reservoirItem(0, i), i == slotOfStream ? 5000 : i + 1);
            due.same("other group's " + what, x.groupItem(0, (group + 1) % 4, i), i + 1);
        }
    }

    // ---- promises 7 to 11

    private void filledSlots() {
        promise(7, "Returns how many slots of the reservoir are filled.");
        ReservoirReed x = begun(16, 8);
        due.same("none", x.reservoirSize(0), 0);
        for (int i = 1; i <= 17; i++) {
            x.offer(0, i, 1, 0, 0, 0);
            due.same("behind offer " + i, x.reservoirSize(0), Math.min(i, 16));
        }
        promise(7, "Returns the number.");
        for (int k = 2; k <= 16; k++) {
            ReservoirReed y = begun(k, 8);
            for (int i = 1; i <= 300; i++) {
                y.offer(1, 7, 1, 0, 0, 0);
            }
            due.same("300 offers, k = " + k, y.reservoirSize(1), k);
            due.same("the other stream, k = " + k, y.reservoirSize(0), 0);
        }
    }

    private void items() {
        promise(8, "Returns the item in a slot of the reservoir.");
        ReservoirReed x = begun(2, 8);
        x.offer(0, 40, 1, 0, 0, 0);
        x.offer(1, 60, 1, 0, 0, 0);
        x.offer(0, 50, 1, 0, 0, 0);
        due.same("slot 0", x.reservoirItem(0, 0), 40);
        due.same("slot 1", x.reservoirItem(0, 1), 50);
        due.same("stream 1", x.reservoirItem(1, 0), 60);
        promise(8, "Returns the item.");
        x.offer(0, 1000000, 1, 0, 4, 0);
        due.same("the greatest item", x.reservoirItem(0, 1), 1000000);
        x.offer(0, 0, 1, 0, 4, 0);
        due.same("the least item", x.reservoirItem(0, 0), 0);
        due.same("the other slot", x.reservoirItem(0, 1), 1000000);
    }

    private void positions() {
        promise(9, "Returns the position of the offer in a slot of the reservoir.");
        ReservoirReed x = begun(2, 8);
        for (int i = 1; i <= 299; i++) {
            x.offer(1, 7, 1, 0, i - 1, 0);
        }
        due.same("slot 0", x.reservoirPosition(1, 0), 1);
        due.same("slot 1", x.reservoirPosition(1, 1), 2);
        promise(9, "Returns the position.");
        x.offer(1, 7, 1, 0, 301, 0);
        due.same("the greatest position", x.reservoirPosition(1, 1), 300);
        due.same("the least position", x.reservoirPosition(1, 0), 1);
    }

    private void groupOffers() {
        promise(10, "Returns how many offers of a group there have been.");
        ReservoirReed x = begun(2, 8);
        for (int i = 1; i <= 10; i++) {
            for (int group = 0; group <= 3; group++) {
                due.same("group " + group + " before", x.groupOffers(0, group), i - 1);
                x.offer(0, 7, 1, group, 0, 0);
                due.same("group " + group + " behind", x.groupOffers(0, group), i);
            }
        }
        promise(10, "Returns the number.");
        for (int group = 0; group <= 3; group++) {
            ReservoirReed y = begun(2, 8);
            for (int i = 1; i <= 300; i++) {
                y.offer(1, 7, 1, group, 0, 0);
            }
            for (int asked = 0; asked <= 3; asked++) {
                due.same("300 offers", y.groupOffers(1, asked), asked == group ? 300 : 0);
                due.same("the other stream", y.groupOffers(0, asked), 0);
            }
        }
    }

    private void groupItems() {
        promise(11, "Returns the item in a slot of the reservoir of a group.");
        for (int group = 0; group <= 3; group++) {
            ReservoirReed x = begun(2, 8);
            for (int i = 1; i <= 9; i++) {
                x.offer(0, 900 + i, 1, (group + 1) % 4, 0, 0);
            }
            x.offer(0, 40, 1, group, 0, 0);
            x.offer(0, 50, 1, group, 0, 0);
            due.same("slot 0", x.groupItem(0, group, 0), 40);
            due.same("slot 1", x.groupItem(0, group, 1), 50);
            due.same("the other group", x.groupItem(0, (group + 1) % 4, 0), 909);
            promise(11, "Returns the item.");
            x.offer(0, 1000000, 1, group, 4, 0);
            due.same("the greatest item", x.groupItem(0, group, 1), 1000000);
            x.offer(0, 0, 1, group, 4, 0);
            due.same("the least item", x.groupItem(0, group, 0), 0);
            promise(11, "Returns the item in a slot of the reservoir of a group.");
        }
    }
}
