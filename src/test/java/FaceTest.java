import java.io.IOException;
import java.lang.reflect.Constructor;
import java.lang.reflect.Field;
import java.lang.reflect.Method;
import java.lang.reflect.Modifier;
import java.nio.file.Files;
import java.nio.file.Path;
import java.util.ArrayList;
import java.util.List;
import java.util.TreeSet;
import java.util.regex.Matcher;
import java.util.regex.Pattern;

/** The public face is the document's, and nothing beside it: its first argument is the document. */
public final class FaceTest {
    private static final Due due = new Due();

    public static void main(String[] args) throws IOException {
        due.same("the calls", calls().toString(), callsOf(Path.of(args[0])).toString());
        due.same("public and final", Modifier.toString(ReservoirReed.class.getModifiers()), "public final");
        constructors();
        hiddenMembers();
        due.end("FaceTest");
    }

    private static TreeSet<String> callsOf(Path document) throws IOException {
        String text = Files.readString(document);
        String face = text.substring(text.indexOf("```java"), text.indexOf("## Terms"));
        Matcher call = Pattern.compile("public (\\w+) (\\w+)\\(([^)]*)\\) throws ([^;]*);").matcher(face);
        TreeSet<String> calls = new TreeSet<>();
        while (call.find()) {
            String types = call.group(3).replaceAll(" \\w+(,|$)", "$1");
            calls.add(call.group(1) + " " + call.group(2) + "(" + types + ") throws " + call.group(4));
        }
        return calls;
    }

    private static TreeSet<String> calls() {
        TreeSet<String> calls = new TreeSet<>();
        for (Method method : ReservoirReed.class.getDeclaredMethods()) {
            if (Modifier.isPublic(method.getModifiers())) {
                calls.add(method.getReturnType() + " " + method.getName()
                    + "(" + names(method.getParameterTypes()) + ") throws " + names(method.getExceptionTypes()));
            }
        }
        return calls;
    }

    private static String names(Class<?>[] types) {
        List<String> names = new ArrayList<>();
        for (Class<?> type : types) {
            names.add(type.getSimpleName());
        }
        return String.join(", ", names);
    }

    private static void constructors() {
        Constructor<?>[] constructors = ReservoirReed.class.getDeclaredConstructors();
        due.same("constructors", constructors.length, 1);
        due.same("the constructor", constructors[0].toString(), "public ReservoirReed()");
    }

    private static void hiddenMembers() {
        TreeSet<String> face = new TreeSet<>();
        for (Method method : ReservoirReed.class.getMethods()) {
            face.add(method.getName());
        }
        for (Method method : ReservoirReed.class.getDeclaredMethods()) {
            int modifiers = method.getModifiers();
            if (!Modifier.isPublic(modifiers) && !method.isSynthetic()) {
                due.same(method.getName() + " is", Modifier.isPrivate(modifiers) ? "private" : "open", "private");
                due.same(method.getName() + " bears", face.contains(method.getName()) ? "a public name" : "its own", "its own");
            }
        }
        for (Field field : ReservoirReed.class.getDeclaredFields()) {
            due.same(field.getName() + " is", Modifier.isPrivate(field.getModifiers()) ? "private" : "open", "private");
        }
    }
}
