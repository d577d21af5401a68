import java.util.ArrayList;
import java.util.List;

/** Every question that can be asked about a stream, each sample's places up to the one behind its last. */
final class Questions {
    private final List<Call> calls = new ArrayList<>();
    private final int stream;
    private final int size;

    private Questions(int stream, int size) {
        this.stream = stream;
        this.size = size;
    }

    static List<Call> all(int stream, int size) {
        return stream == 2 ? merged(stream, size) : own(stream, size);
    }

    /** The questions that can be asked about both streams merged. */
    static List<Call> merged(int stream, int size) {
        Questions questions = new Questions(stream, size);
        questions.askMerged();
        return questions.calls;
    }

    private static List<Call> own(int stream, int size) {
        Questions questions = new Questions(stream, size);
        questions.askMerged();
        questions.askReservoirs();
        for (String name : new String[] {"windowItem", "windowPosition", "chainLength", "successor"}) {
            questions.ask(name);
        }
        return questions.calls;
    }

    private void askMerged() {
        for (String name : new String[] {"offers", "prioritySize", "threshold", "distinctSize", "distinctEstimate"}) {
            ask(name);
        }
        for (String name : new String[] {"priorityItem", "estimatedWeight", "distinctItem", "distinctOffers"}) {
            askEachPlace(name);
        }
        for (String name : new String[] {"exactWeight", "estimate", "sampledWeight"}) {
            askEachGroup(name);
        }
    }

    private void askReservoirs() {
        ask("reservoirSize");
        askEachPlace("reservoirItem");
        askEachPlace("reservoirPosition");
        askEachGroup("groupOffers");
        for (int group = 0; group <= 3; group++) {
            for (int slot = 0; slot <= size; slot++) {
                calls.add(new Call("groupItem", stream, group, slot));
            }
        }
    }

    private void ask(String name) {
        calls.add(new Call(name, stream));
    }

    private void askEachPlace(String name) {
        for (int place = 0; place <= size; place++) {
            calls.add(new Call(name, stream, place));
        }
    }

    private void askEachGroup(String name) {
        for (int group = 0; group <= 3; group++) {
            calls.add(new Call(name, stream, group));
        }
    }
}
