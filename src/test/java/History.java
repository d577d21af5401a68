import java.util.ArrayList;
import java.util.List;
import java.util.Random;

/** A run of calls that can be made again, on a new object or on a new model. */
final class History {
    private final int size;
    private final List<Call> calls;

    private History(int size, List<Call> calls) {
        this.size = size;
        this.calls = calls;
    }

    static History ofNewObject() {
        return new History(4, List.of());
    }

    static History begun(int size, int window) {
        return new History(size, List.of(new Call("begin", size, window)));
    }

    /** The size k behind the calls: a begin that comes later is not looked at. */
    int size() {
        return size;
    }

    History then(Call call) {
        List<Call> more = new ArrayList<>(calls);
        more.add(call);
        return new History(size, more);
    }

    History then(String name, int... arguments) {
        return then(new Call(name, arguments));
    }

    /** The same calls, and then so many mixed offers. */
    History offered(int stream, int count) {
        return offered(stream, count, stream + 1);
    }

    History offered(int stream, int count, int seed) {
        List<Call> more = new ArrayList<>(calls);
        Random random = new Random(seed);
        for (int i = 0; i < count; i++) {
            more.add(mixedOffer(stream, random));
        }
        return new History(size, more);
    }

    // Weights and dice are mostly small, so that there are equal priorities and repeated items.
    private static Call mixedOffer(int stream, Random random) {
        boolean wide = random.nextInt(4) == 0;
        return new Call("offer", stream,
            wide ? random.nextInt(1000001) : random.nextInt(60),
            wide ? 1 + random.nextInt(1000000) : 1 + random.nextInt(4),
            random.nextInt(4),
            wide ? random.nextInt() & Integer.MAX_VALUE : random.nextInt(400),
            wide ? random.nextInt() & Integer.MAX_VALUE : random.nextInt(8));
    }

    Played played() {
        Played object = new Played();
        for (Call call : calls) {
            object.answer(call);
        }
        return object;
    }

    Model modelled() {
        Model model = new Model();
        for (Call call : calls) {
            model.answer(call.name(), call.arguments());
        }
        return model;
    }

    /** What a new object answers to the questions when it has had these calls. */
    List<String> answers(List<Call> questions) {
        Played object = played();
        List<String> answers = new ArrayList<>();
        for (Call question : questions) {
            answers.add(object.answer(question));
        }
        return answers;
    }

    /** What the model answers to them. */
    List<String> modelAnswers(List<Call> questions) {
        Model model = modelled();
        List<String> answers = new ArrayList<>();
        for (Call question : questions) {
            answers.add(model.answer(question.name(), question.arguments()));
        }
        return answers;
    }
}
