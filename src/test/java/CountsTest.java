import java.util.List;

/**
 * Promises 5 to 25: each question to streams with none, one, one short of k, k, one more, and 300
 * offers, for each size and each window, compared with the model's answer.
 */
public final class CountsTest {
    private static final Due due = new Due();

    public static void main(String[] args) {
        for (int k = 2; k <= 16; k++) {
            int[][] counts = {{0, 0}, {1, 0}, {0, 1}, {k - 1, 1}, {1, k - 1}, {k - 1, k - 1}, {k, 1}, {1, k}, {k, k},
                {k + 1, k}, {k, k + 1}, {k + 2, k + 2}, {299, 1}, {300, 0}, {k, 299}, {0, 300}};
            for (int[] count : counts) {
                eachSize(k, count);
            }
        }
        for (int w = 1; w <= 64; w++) {
            for (int count : new int[] {1, 2, w - 1, w, w + 1, w + 2, 2 * w, 299, 300}) {
                eachWindow(w, count);
            }
        }
        due.end("CountsTest");
    }

    private static void eachSize(int k, int[] count) {
        History history = History.begun(k, 1 + 13 * k % 64).offered(0, count[0], k).offered(1, count[1], k + 100);
        for (int stream = 0; stream <= 2; stream++) {
            String what = "k = " + k + ", " + count[0] + " and " + count[1] + " offers";
            compare(what, history, Questions.all(stream, k));
        }
    }

    private static void eachWindow(int w, int count) {
        History history = History.begun(2, w).offered(1, count, w);
        compare("w = " + w + ", " + count + " offers", history, List.of(new Call("windowItem", 1),
            new Call("windowPosition", 1), new Call("chainLength", 1), new Call("successor", 1)));
    }

    private static void compare(String what, History history, List<Call> questions) {
        due.sameAnswers(what, questions, history.answers(questions), history.modelAnswers(questions));
    }
}
