import java.math.BigInteger;
import java.util.ArrayList;
import java.util.List;
import java.util.TreeMap;

/**
 * The document's terms in their plainest words: keeps all offers of both streams, and works out
 * each answer from the whole list when it is asked.
 */
final class Model {
    private record Offer(int item, int weight, int group, int first, int second) {
        BigInteger over(Offer other) {
            return BigInteger.valueOf(weight).multiply(BigInteger.valueOf(other.first).add(BigInteger.ONE));
        }
    }

    private record Link(int position, int item, int successor) {
    }

    private final List<List<Offer>> streams = List.of(new ArrayList<>(), new ArrayList<>());
    private int k = 4;
    private int w = 8;

    /** The answer of a call, or throws. and the exception's name. */
    String answer(String call, int[] a) {
        if (!argumentsAreInRange(call, a)) {
            return "throws.IllegalArgumentException";
        }
        switch (call) {
            case "begin": return begin(a[0], a[1]);
            case "offer": return offer(streams.get(a[0]), new Offer(a[1], a[2], a[3], a[4], a[5]));
            case "clear": return clear(streams.get(a[0]));
            default: return question(call, a);
        }
    }

    private static boolean argumentsAreInRange(String call, int[] a) {
        switch (call) {
            case "begin":
                return within(a[0], 2, 16) && within(a[1], 1, 64);
            case "offer":
                return within(a[0], 0, 1) && within(a[1], 0, 1000000) && within(a[2], 1, 1000000)
                    && within(a[3], 0, 3) && a[4] >= 0 && a[5] >= 0;
            case "clear": case "reservoirSize": case "reservoirItem": case "reservoirPosition":
            case "windowItem": case "windowPosition": case "chainLength": case "successor":
                return within(a[0], 0, 1);
            case "groupOffers": case "groupItem":
                return within(a[0], 0, 1) && within(a[1], 0, 3);
            case "exactWeight": case "estimate": case "sampledWeight":
                return within(a[0], 0, 2) && within(a[1], 0, 3);
            default:
                return within(a[0], 0, 2);
        }
    }

    private static boolean within(int value, int least, int most) {
        return value >= least && value <= most;
    }

    private String begin(int size, int window) {
        k = size;
        w = window;
        streams.get(0).clear();
        streams.get(1).clear();
        return "nothing";
    }

    private static String offer(List<Offer> stream, Offer offer) {
        if (stream.size() == 300) {
            return "throws.IllegalStateException";
        }
        stream.add(offer);
        return "" + stream.size();
    }

    private static String clear(List<Offer> stream) {
        String had = "" + stream.size();
        stream.clear();
        return had;
    }

    private String question(String call, int[] a) {
        List<Offer> all = offersOf(a[0]);
        switch (call) {
            case "offers": return "" + all.size();
            case "exactWeight": return "" + ofGroup(all, a[1]).stream().mapToInt(Offer::weight).sum();
            case "reservoirSize": return "" + reservoir(all).size();
            case "reservoirItem": return place(reservoirItems(all, reservoir(all)), a[1]);
            case "reservoirPosition": return place(reservoir(all), a[1]);
            case "groupOffers": return "" + ofGroup(all, a[1]).size();
            case "groupItem": return groupItem(ofGroup(all, a[1]), a[2]);
            case "prioritySize": return "" + prioritySample(all).size();
            case "priorityItem": return place(prioritySample(all).stream().map(Offer::item).toList(), a[1]);
            case "estimatedWeight": return place(estimatedWeights(all), a[1]);
            case "threshold": return "" + threshold(all);
            case "estimate": return "" + estimate(all, a[1]);
            case "sampledWeight":
                return "" + ofGroup(prioritySample(all), a[1]).stream().mapToInt(Offer::weight).sum();
            case "distinctSize": return "" + distinctSample(all).size();
            case "distinctItem": return place(distinctSample(all), a[1]);
            case "distinctOffers": return place(distinctCounts(all), a[1]);
            case "distinctEstimate": return "" + distinctEstimate(all);
            default: return windowQuestion(call, chain(all));
        }
    }

    private List<Offer> offersOf(int stream) {
        if (stream < 2) {
            return streams.get(stream);
        }
        List<Offer> both = new ArrayList<>(streams.get(0));
        both.addAll(streams.get(1));
        return both;
    }

    private static String place(List<?> list, int place) {
        return place >= 0 && place < list.size() ? "" + list.get(place) : "throws.IndexOutOfBoundsException";
    }

    private static List<Offer> ofGroup(List<Offer> all, int group) {
        return all.stream().filter(offer -> offer.group == group).toList();
    }

    private List<Integer> reservoir(List<Offer> all) {
        List<Integer> slots = new ArrayList<>();
        for (int n = 1; n <= all.size(); n++) {
            int s = all.get(n - 1).first % n;
            if (n <= k) {
                slots.add(n);
            } else if (s < k) {
                slots.set(s, n);
            }
        }
        return slots;
    }

    private static List<Integer> reservoirItems(List<Offer> all, List<Integer> slots) {
        return slots.stream().map(n -> all.get(n - 1).item).toList();
    }

    private String groupItem(List<Offer> group, int slot) {
        return place(reservoirItems(group, reservoir(group)), slot);
    }

    private static List<Offer> byPriority(List<Offer> all) {
        List<Offer> order = new ArrayList<>(all);
        order.sort((a, b) -> b.over(a).compareTo(a.over(b)));
        return order;
    }

    private List<Offer> prioritySample(List<Offer> all) {
        return byPriority(all).subList(0, Math.min(k, all.size()));
    }

    private long threshold(List<Offer> all) {
        if (all.size() <= k) {
            return 0;
        }
        Offer next = byPriority(all).get(k);
        return BigInteger.valueOf(next.weight).multiply(BigInteger.TWO.pow(31))
            .divide(BigInteger.valueOf(next.first).add(BigInteger.ONE)).longValueExact();
    }

    private List<Long> estimatedWeights(List<Offer> all) {
        long threshold = threshold(all);
        return prioritySample(all).stream().map(offer -> Math.max(offer.weight, threshold)).toList();
    }

    private long estimate(List<Offer> all, int group) {
        long threshold = threshold(all);
        return ofGroup(prioritySample(all), group).stream()
            .mapToLong(offer -> Math.max(offer.weight, threshold)).sum();
    }

    private static long hash(int item) {
        return BigInteger.valueOf(item).multiply(BigInteger.valueOf(2654435761L))
            .mod(BigInteger.TWO.pow(32)).longValueExact() + 1;
    }

    private List<Integer> distinctSample(List<Offer> all) {
        TreeMap<Long, Integer> byHash = new TreeMap<>();
        for (Offer offer : all) {
            byHash.put(hash(offer.item), offer.item);
        }
        return byHash.values().stream().limit(k).toList();
    }

    private List<Long> distinctCounts(List<Offer> all) {
        return distinctSample(all).stream()
            .map(item -> all.stream().filter(offer -> offer.item == item).count()).toList();
    }

    private long distinctEstimate(List<Offer> all) {
        List<Integer> sample = distinctSample(all);
        if (sample.size() < k) {
            return sample.size();
        }
        return BigInteger.TWO.pow(32).multiply(BigInteger.valueOf(k - 1))
            .divide(BigInteger.valueOf(hash(sample.get(k - 1)))).longValueExact();
    }

    private List<Link> chain(List<Offer> all) {
        List<Link> chain = new ArrayList<>();
        for (int n = 1; n <= all.size(); n++) {
            Offer offer = all.get(n - 1);
            Link link = new Link(n, offer.item, n + 1 + offer.second % w);
            if (offer.first % Math.min(n, w) == 0) {
                chain.clear();
                chain.add(link);
            } else if (chain.get(chain.size() - 1).successor == n) {
                chain.add(link);
            }
            while (chain.get(0).position <= n - w) {
                chain.remove(0);
            }
        }
        return chain;
    }

    private static String windowQuestion(String call, List<Link> chain) {
        if (call.equals("chainLength")) {
            return "" + chain.size();
        }
        if (chain.isEmpty()) {
            return "throws.IllegalStateException";
        }
        switch (call) {
            case "windowItem": return "" + chain.get(0).item;
            case "windowPosition": return "" + chain.get(0).position;
            case "successor": return "" + chain.get(chain.size() - 1).successor;
            default: throw new IllegalArgumentException(call);
        }
    }
}
