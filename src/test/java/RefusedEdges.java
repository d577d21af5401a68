import java.util.ArrayList;
import java.util.HashMap;
import java.util.LinkedHashMap;
import java.util.List;
import java.util.Map;

/** The arguments of every call, and what a refused call throws and leaves as it was: promises 2 to 25. */
final class RefusedEdges extends Edges {
    private record Bound(String sentence, int least, int most) {
    }

    /** A call with arguments that it takes, when it throws, and the bounds of all arguments but places. */
    private record Asked(int promise, Call call, String condition, Bound... bounds) {
    }

    /** A call whose last argument is a place, and the call that tells how many places there are. */
    private record Placed(Asked asked, String sentence, String condition, String sizeCall) {
        Call at(int stream, int group, int place) {
            // Without a group the second argument is the place itself.
            int last = asked.call.arguments().length - 1;
            return asked.call.with(0, stream).with(1, group).with(last, place);
        }
    }

    private static final Bound OWN = new Bound("stream: 0 or 1", 0, 1);
    private static final Bound ANY = new Bound("stream: 0 to 2", 0, 2);
    private static final Bound GROUP = new Bound("group: 0 to 3", 0, 3);
    private static final String STREAM = "stream is out of range";
    private static final String STREAM_OR_GROUP = "stream or group is out of range";
    private static final String NO_SLOT = "there is no such filled slot";
    private static final String NO_PLACE = "there is no such place";
    private static final String NO_OFFERS = "the stream has had no offers";
    private static final String BY_PRIORITY = "place: 0 for the offer with the greatest priority";
    private static final String BY_HASH = "place: 0 for the item with the least hash";
    private static final String SLOT = "slot: a filled slot";
    private static final String ARGUMENT = "IllegalArgumentException";
    private static final String STATE = "IllegalStateException";
    private static final String INDEX = "IndexOutOfBoundsException";

    private static final List<Asked> PLAIN = List.of(
        new Asked(2, new Call("begin", 4, 8), "size or window is out of range",
            new Bound("size: the size k, 2 to 16", 2, 16), new Bound("window: the window w, 1 to 64", 1, 64)),
        new Asked(3, new Call("offer", 0, 500, 7, 1, 3, 5), "an argument is out of range", OWN,
            new Bound("item: 0 to 1000000", 0, 1000000), new Bound("weight: 1 to 1000000", 1, 1000000), GROUP,
            new Bound("first: the first die, 0 or more", 0, MOST),
            new Bound("second: the second die, 0 or more", 0, MOST)),
        new Asked(4, new Call("clear", 0), STREAM, OWN),
        new Asked(5, new Call("offers", 0), STREAM, ANY),
        new Asked(6, new Call("exactWeight", 0, 0), STREAM_OR_GROUP, ANY, GROUP),
        new Asked(7, new Call("reservoirSize", 0), STREAM, OWN),
        new Asked(10, new Call("groupOffers", 0, 0), STREAM_OR_GROUP, OWN, GROUP),
        new Asked(12, new Call("prioritySize", 0), STREAM, ANY),
        new Asked(15, new Call("threshold", 0), STREAM, ANY),
        new Asked(16, new Call("estimate", 0, 0), STREAM_OR_GROUP, ANY, GROUP),
        new Asked(17, new Call("sampledWeight", 0, 0), STREAM_OR_GROUP, ANY, GROUP),
        new Asked(18, new Call("distinctSize", 0), STREAM, ANY),
        new Asked(21, new Call("distinctEstimate", 0), STREAM, ANY),
        new Asked(22, new Call("windowItem", 0), STREAM, OWN),
        new Asked(23, new Call("windowPosition", 0), STREAM, OWN),
        new Asked(24, new Call("chainLength", 0), STREAM, OWN),
        new Asked(25, new Call("successor", 0), STREAM, OWN));

    private static final List<Placed> PLACED = List.of(
        new Placed(new Asked(8, new Call("reservoirItem", 0, 0), STREAM, OWN), SLOT, NO_SLOT, "reservoirSize"),
        new Placed(new Asked(9, new Call("reservoirPosition", 0, 0), STREAM, OWN), SLOT, NO_SLOT, "reservoirSize"),
        new Placed(new Asked(11, new Call("groupItem", 0, 0, 0), STREAM_OR_GROUP, OWN, GROUP), SLOT, NO_SLOT,
            "groupOffers"),
        new Placed(new Asked(13, new Call("priorityItem", 0, 0), STREAM, ANY), BY_PRIORITY, NO_PLACE, "prioritySize"),
        new Placed(new Asked(14, new Call("estimatedWeight", 0, 0), STREAM, ANY), BY_PRIORITY, NO_PLACE,
            "prioritySize"),
        new Placed(new Asked(19, new Call("distinctItem", 0, 0), STREAM, ANY), BY_HASH, NO_PLACE, "distinctSize"),
        new Placed(new Asked(20, new Call("distinctOffers", 0, 0), STREAM, ANY), BY_HASH, NO_PLACE, "distinctSize"));

    private final List<Asked> all = new ArrayList<>(PLAIN);
    private final Map<String, History> states = new LinkedHashMap<>();
    // The answers in a state are asked once, and compared with those behind each refused call.
    private final Map<String, List<String>> known = new HashMap<>();

    RefusedEdges(Due due, Document document) {
        super(due, document);
        for (Placed placed : PLACED) {
            all.add(placed.asked);
        }
        states.put("a new object", History.ofNewObject());
        states.put("k = 2, w = 1, empty", History.begun(2, 1));
        states.put("one short of full, just full", History.begun(3, 5).offered(0, 2).offered(1, 3));
        states.put("one beyond, many beyond", History.begun(2, 3).offered(0, 3).offered(1, 40));
        states.put("stream 0 had 300 offers", History.begun(2, 64).offered(0, 300));
        states.put("stream 1 had 300 offers", History.begun(3, 7).offered(1, 300).offered(0, 1));
        states.put("k = 16, 17 offers", History.begun(16, 64).offered(0, 17).offered(1, 15));
        states.put("cleared", History.begun(4, 8).offered(0, 9).offered(1, 9).then("clear", 0));
    }

    @Override
    List<Runnable> tests() {
        return List.of(
            this::argumentsHaveBounds,
            this::placesHaveBounds,
            this::argumentsOutOfRange,
            this::noSuchPlaces,
            this::notPossibleNow,
            this::eachExceptionHasItsCause,
            this::rightOneGoesFirst,
            this::nothingChanges);
    }

    // ---- what is taken, and the next beyond it

    private static History busy() {
        History history = History.begun(2, 8);
        for (int i = 0; i < 16; i++) {
            history = history.then("offer", i % 2, i, 1 + i, i / 2 % 4, i, i);
        }
        return history;
    }

    private void argumentsHaveBounds() {
        for (Asked asked : all) {
            for (int i = 0; i < asked.bounds.length; i++) {
                Bound bound = asked.bounds[i];
                promise(asked.promise, bound.sentence);
                taken(asked.call.with(i, bound.least));
                taken(asked.call.with(i, bound.most));
                for (int wrong : beyond(bound)) {
                    refused("two full samples", busy(), asked.call.with(i, wrong), ARGUMENT);
                }
            }
        }
    }

    private void taken(Call call) {
        String answer = busy().played().answer(call);
        due.same(call.toString(), answer.startsWith("throws.") ? answer : "taken", "taken");
    }

    // The next one beyond each end, and the farthest.
    private static List<Integer> beyond(Bound bound) {
        List<Integer> wrong = new ArrayList<>(List.of(bound.least - 1, LEAST));
        if (bound.most < MOST) {
            wrong.add(bound.most + 1);
            wrong.add(MOST);
        }
        return wrong;
    }

    private void placesHaveBounds() {
        for (Placed placed : PLACED) {
            promise(placed.asked.promise, placed.sentence);
            for (int stream = 0; stream <= placed.asked.bounds[0].most; stream++) {
                for (int place = 0; place <= 1; place++) {
                    taken(placed.at(stream, 0, place));
                }
                for (int wrong : new int[] {-1, 2, LEAST, MOST}) {
                    refused("two full samples", busy(), placed.at(stream, 0, wrong), INDEX);
                }
            }
        }
    }

    // ---- what is thrown in every state, with nothing changed

    private void argumentsOutOfRange() {
        for (Asked asked : all) {
            promise(asked.promise, throwsIf(ARGUMENT, asked.condition));
            for (Map.Entry<String, History> state : states.entrySet()) {
                for (int i = 0; i < asked.bounds.length; i++) {
                    for (int wrong : beyond(asked.bounds[i])) {
                        refused(state.getKey(), state.getValue(), asked.call.with(i, wrong), ARGUMENT);
                    }
                }
            }
        }
    }

    private static String throwsIf(String exception, String condition) {
        return "Throws " + exception + " if " + condition;
    }

    private void noSuchPlaces() {
        for (Placed placed : PLACED) {
            promise(placed.asked.promise, throwsIf(INDEX, placed.condition));
            for (Map.Entry<String, History> state : states.entrySet()) {
                for (int stream = 0; stream <= placed.asked.bounds[0].most; stream++) {
                    noSuchPlaces(placed, state.getKey(), state.getValue(), stream);
                }
            }
        }
    }

    private void noSuchPlaces(Placed placed, String name, History state, int stream) {
        for (int group = 0; group <= (placed.asked.bounds.length - 1) * 3; group++) {
            int places = places(placed, state, stream, group);
            if (places > 0) {
                String last = state.played().answer(placed.at(stream, group, places - 1));
                due.same(name + ", the last place", last.startsWith("throws.") ? last : "taken", "taken");
            }
            for (int wrong : new int[] {-1, LEAST, places, places + 1, Math.max(places, state.size()), MOST}) {
                refused(name, state, placed.at(stream, group, wrong), INDEX);
            }
        }
    }

    private static int places(Placed placed, History state, int stream, int group) {
        int[] arguments = placed.asked.bounds.length == 2 ? new int[] {stream, group} : new int[] {stream};
        return Math.min(state.size(), Integer.parseInt(state.modelled().answer(placed.sizeCall, arguments)));
    }

    private void notPossibleNow() {
        Call offer = new Call("offer", 0, 500, 7, 1, 3, 5);
        promise(3, throwsIf(STATE, "the stream has had 300 offers"));
        for (int stream = 0; stream <= 1; stream++) {
            String name = "stream " + stream + " had 300 offers";
            refused(name, states.get(name), offer.with(0, stream), STATE);
        }
        String[] names = {"windowItem", "windowPosition", "successor"};
        for (int i = 0; i < names.length; i++) {
            promise(i < 2 ? 22 + i : 25, throwsIf(STATE, NO_OFFERS));
            for (String name : new String[] {"a new object", "k = 2, w = 1, empty"}) {
                refused(name, states.get(name), new Call(names[i], 0), STATE);
                refused(name, states.get(name), new Call(names[i], 1), STATE);
            }
            refused("stream 0 had 300 offers", states.get("stream 0 had 300 offers"), new Call(names[i], 1), STATE);
            refused("cleared", states.get("cleared"), new Call(names[i], 0), STATE);
        }
    }

    private void refused(String name, History state, Call call, String exception) {
        String answer = state.played().answer(call);
        due.same(name + ": " + call, answer, "throws." + exception);
        if (!answer.startsWith("throws.")) {
            return;
        }
        unchanged(name + ", behind the refused " + call, name, state, state.then(call));
        unchanged(name + ", behind the refused " + call + " and more offers", name + ", and more offers",
            more(state), more(state.then(call)));
        unchanged(name + ", behind the refused " + call + " and clear", name + ", and clear",
            more(cleared(state)), more(cleared(state.then(call))));
    }

    // A full stream refuses them, which changes nothing either.
    private static History more(History state) {
        return state.offered(0, 5, 21).offered(1, 9, 22);
    }

    // What k and w are shows again in the streams that are filled anew.
    private static History cleared(History state) {
        return state.then("clear", 0).then("clear", 1);
    }

    private void unchanged(String what, String name, History before, History behind) {
        for (int stream = 0; stream <= 2; stream++) {
            List<Call> questions = Questions.all(stream, before.size());
            List<String> want = known.computeIfAbsent(name + stream, key -> before.answers(questions));
            due.sameAnswers(what, questions, behind.answers(questions), want);
        }
    }

    // ---- the terms of exceptions

    private void eachExceptionHasItsCause() {
        terms("2 to 25", "IndexOutOfBoundsException is thrown for a place or a slot that does not exist, "
            + "IllegalArgumentException for another argument out of range, IllegalStateException if a call is not "
            + "possible now.");
        Played empty = new Played();
        Played full = states.get("stream 0 had 300 offers").played();
        due.same("a slot", full.answer(new Call("reservoirItem", 0, 2)), "throws.IndexOutOfBoundsException");
        due.same("a slot of none", empty.answer(new Call("reservoirItem", 0, 0)), "throws.IndexOutOfBoundsException");
        due.same("a place", full.answer(new Call("distinctItem", 0, -1)), "throws.IndexOutOfBoundsException");
        due.same("a stream", full.answer(new Call("offers", 3)), "throws.IllegalArgumentException");
        due.same("a group", full.answer(new Call("groupOffers", 0, 4)), "throws.IllegalArgumentException");
        due.same("a full stream", full.answer(new Call("offer", 0, 1, 1, 0, 0, 0)), "throws.IllegalStateException");
        due.same("no window sample", empty.answer(new Call("windowItem", 0)), "throws.IllegalStateException");
        due.same("an empty chain", empty.answer(new Call("chainLength", 0)), "0");
    }

    private void rightOneGoesFirst() {
        terms("3, 8, 9, 11, 13, 14, 19, 20, 22, 23 and 25", "If several apply, IllegalArgumentException goes first, then "
            + "IllegalStateException, then IndexOutOfBoundsException.");
        Call offer = new Call("offer", 0, 500, 7, 1, 3, 5);
        Bound[] bounds = PLAIN.get(1).bounds;
        for (int full = 0; full <= 1; full++) {
            String name = "stream " + full + " had 300 offers";
            for (int i = 1; i < bounds.length; i++) {
                for (int wrong : beyond(bounds[i])) {
                    refused(name, states.get(name), offer.with(0, full).with(i, wrong), ARGUMENT);
                }
            }
        }
        for (String name : new String[] {"windowItem", "windowPosition", "successor"}) {
            for (int wrong : beyond(OWN)) {
                refused("a new object", states.get("a new object"), new Call(name, wrong), ARGUMENT);
            }
        }
        for (Placed placed : PLACED) {
            argumentBeforePlace(placed);
        }
    }

    private void argumentBeforePlace(Placed placed) {
        int last = placed.asked.call.arguments().length - 1;
        for (int place : new int[] {-1, 99, LEAST, MOST}) {
            for (int i = 0; i < placed.asked.bounds.length; i++) {
                for (int wrong : beyond(placed.asked.bounds[i])) {
                    Call call = placed.asked.call.with(last, place).with(i, wrong);
                    refused("a new object", states.get("a new object"), call, ARGUMENT);
                    refused("cleared", states.get("cleared"), call, ARGUMENT);
                }
            }
        }
    }

    private void nothingChanges() {
        terms("2 to 25", "A call that throws an exception changes nothing.");
        for (Map.Entry<String, History> state : states.entrySet()) {
            for (Call call : List.of(new Call("begin", 17, 1), new Call("begin", 16, 65), new Call("begin", 1, 64),
                new Call("begin", 2, 0), new Call("begin", 0, 0), new Call("clear", 2), new Call("clear", -1),
                new Call("offer", 2, 1, 1, 0, 0, 0), new Call("offer", 1, 1, 1, 4, 0, 0),
                new Call("offer", 0, 1000001, 1000001, 4, -1, -1))) {
                refused(state.getKey(), state.getValue(), call, ARGUMENT);
            }
        }
        manyRefusedCalls();
    }

    private void manyRefusedCalls() {
        History before = History.begun(3, 5).offered(0, 20).offered(1, 20);
        History behind = before;
        for (Asked asked : all) {
            for (int i = 0; i < asked.bounds.length; i++) {
                behind = behind.then(asked.call.with(i, asked.bounds[i].least - 1));
            }
        }
        for (Placed placed : PLACED) {
            behind = behind.then(placed.at(1, 1, -1)).then(placed.at(1, 1, 3));
        }
        unchanged("every call refused once", "twenty and twenty", before, behind);
        unchanged("every call refused once, and more offers", "twenty and twenty, and more offers", more(before),
            more(behind));
        unchanged("every call refused once, and clear", "twenty and twenty, and clear", more(cleared(before)),
            more(cleared(behind)));
    }
}
