import java.util.Arrays;

/** A call of the face. */
record Call(String name, int... arguments) {
    Call with(int index, int value) {
        int[] changed = arguments.clone();
        changed[index] = value;
        return new Call(name, changed);
    }

    @Override
    public String toString() {
        return name + Arrays.toString(arguments);
    }
}
