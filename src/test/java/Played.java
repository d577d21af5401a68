import java.lang.reflect.InvocationTargetException;
import java.util.Arrays;

/** An object that is called by name, and no more often than the document promises answers for. */
final class Played {
    private static final int MOST_CALLS = 512;

    private final ReservoirReed object = new ReservoirReed();
    private int calls;

    /** The answer of a call, or throws. and the exception's name. */
    String answer(Call call) {
        calls++;
        if (calls > MOST_CALLS) {
            throw new AssertionError("the test calls its object too often");
        }
        Class<?>[] types = new Class<?>[call.arguments().length];
        Arrays.fill(types, int.class);
        Object[] arguments = Arrays.stream(call.arguments()).boxed().toArray();
        try {
            Object answer = ReservoirReed.class.getMethod(call.name(), types).invoke(object, arguments);
            return answer == null ? "nothing" : answer.toString();
        } catch (InvocationTargetException thrown) {
            return "throws." + thrown.getCause().getClass().getSimpleName();
        } catch (ReflectiveOperationException noSuchCall) {
            throw new AssertionError(noSuchCall);
        }
    }
}
