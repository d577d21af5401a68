import java.util.Random;

/** Promises 1 to 25: runs of mixed calls, each answer compared with the model's. */
public final class ModelTest {
    private static final int RUNS = 1200;
    private static final int CALLS = 512;
    private static final String[] QUESTIONS = {
        "offers", "exactWeight", "reservoirSize", "reservoirItem", "reservoirPosition", "groupOffers",
        "groupItem", "prioritySize", "priorityItem", "estimatedWeight", "threshold", "estimate",
        "sampledWeight", "distinctSize", "distinctItem", "distinctOffers", "distinctEstimate",
        "windowItem", "windowPosition", "chainLength", "successor"};
    private static final Due due = new Due();

    private final Random random;
    private final Played object = new Played();
    private final Model model = new Model();
    private final int mostItem;
    private final int mostWeight;
    private final int mostDie;
    private final int offersInTen;
    private int k = 4;

    private ModelTest(int seed) {
        random = new Random(seed);
        mostItem = pick(3, 30, 1000, 1000000);
        mostWeight = pick(1, 3, 100, 1000000);
        mostDie = pick(2, 10, 300, 100000, Integer.MAX_VALUE);
        offersInTen = pick(2, 5, 8, 9);
    }

    public static void main(String[] args) {
        for (int seed = 1; seed <= RUNS; seed++) {
            new ModelTest(seed).run(seed);
        }
        due.end("ModelTest");
    }

    private int pick(int... values) {
        return values[random.nextInt(values.length)];
    }

    // Both ends are in it, also where the range is that of all ints of 0 or more.
    private int upTo(int most) {
        return (int) (random.nextDouble() * (most + 1.0));
    }

    private int seldomWrong(int value, int wrong) {
        return random.nextInt(100) == 0 ? wrong : value;
    }

    private void run(int seed) {
        // Half of the runs keep to one stream and never empty it, so that it gets full.
        boolean steady = seed % 2 == 0;
        int mostStream = steady && seed % 4 == 0 ? 0 : 1;
        begin(seed);
        for (int i = 2; i <= CALLS; i++) {
            int kind = random.nextInt(1000);
            if (kind < 4 && !steady) {
                begin(seed);
            } else if (kind < 10 && !steady) {
                compare(seed, "clear", seldomWrong(upTo(1), pick(-1, 2)));
            } else if (kind < 100 * offersInTen) {
                offer(seed, mostStream);
            } else {
                ask(seed, QUESTIONS[random.nextInt(QUESTIONS.length)]);
            }
        }
    }

    private void begin(int seed) {
        int size = seldomWrong(pick(2, 3, 4, 16, 2 + upTo(14)), pick(1, 17));
        int window = seldomWrong(pick(1, 2, 8, 64, 1 + upTo(63)), pick(0, 65));
        if (size >= 2 && size <= 16 && window >= 1 && window <= 64) {
            k = size;
        }
        compare(seed, "begin", size, window);
    }

    private void offer(int seed, int mostStream) {
        compare(seed, "offer",
            seldomWrong(upTo(mostStream), pick(-1, 2)),
            seldomWrong(upTo(mostItem), pick(-1, 1000001)),
            seldomWrong(1 + upTo(mostWeight - 1), pick(0, 1000001)),
            seldomWrong(upTo(3), pick(-1, 4)),
            seldomWrong(upTo(mostDie), -1),
            seldomWrong(pick(upTo(mostDie), upTo(64)), pick(-1, Integer.MIN_VALUE)));
    }

    private void ask(int seed, String question) {
        int stream = seldomWrong(upTo(2), pick(-1, 3));
        int group = seldomWrong(upTo(3), pick(-1, 4));
        int place = seldomWrong(upTo(k), pick(-1, Integer.MAX_VALUE));
        switch (question) {
            case "exactWeight": case "groupOffers": case "estimate": case "sampledWeight":
                compare(seed, question, stream, group);
                break;
            case "reservoirItem": case "reservoirPosition": case "priorityItem":
            case "estimatedWeight": case "distinctItem": case "distinctOffers":
                compare(seed, question, stream, place);
                break;
            case "groupItem":
                compare(seed, question, stream, group, place);
                break;
            default:
                compare(seed, question, stream);
        }
    }

    private void compare(int seed, String name, int... arguments) {
        Call call = new Call(name, arguments);
        due.same("seed " + seed + ": " + call, object.answer(call), model.answer(name, arguments));
    }
}
