import java.util.List;

/** Tests of the document's edges: each names the promises and the sentence that it looks at. */
abstract class Edges {
    static final int MOST = Integer.MAX_VALUE;
    static final int LEAST = Integer.MIN_VALUE;

    final Due due;
    private final Document document;

    Edges(Due due, Document document) {
        this.due = due;
        this.document = document;
    }

    /** A test that names no sentence itself goes on with the one before it. */
    abstract List<Runnable> tests();

    // What is thrown where no exception is due is told with the sentence that was looked at.
    final void run() {
        for (Runnable test : tests()) {
            try {
                test.run();
            } catch (RuntimeException thrown) {
                due.same("a call", "throws." + thrown.getClass().getSimpleName(), "no exception");
            }
        }
    }

    void whatItIs(String promises, String sentence) {
        due.about("promises " + promises + ": " + document.named("What it is", sentence));
    }

    void terms(String promises, String sentence) {
        due.about("promises " + promises + ": " + document.named("Terms", sentence));
    }

    void promise(int number, String sentence) {
        due.about(document.named("Promise " + number, sentence));
    }

    static ReservoirReed begun(int size, int window) {
        ReservoirReed x = new ReservoirReed();
        x.begin(size, window);
        return x;
    }
}
