import java.io.IOException;
import java.lang.reflect.Method;
import java.lang.reflect.Modifier;
import java.nio.file.Files;
import java.nio.file.Path;
import java.util.ArrayList;
import java.util.Arrays;
import java.util.List;
import java.util.TreeSet;
import java.util.regex.Matcher;
import java.util.regex.Pattern;

/**
 * README.md shows each call of the face, and each with the answer that it gives: its second argument
 * is README.md.
 */
public final class ReadmeTest {
    private static final Due due = new Due();
    private static final String MADE = "ReservoirReed x = new ReservoirReed();";
    private static final Pattern SHOWN = Pattern.compile("x\\.(\\w+)\\(([-\\d, ]+)\\); +// ([\\w.]+)(: .*)?");

    public static void main(String[] args) throws IOException {
        List<String> lines = linesOfCode(Path.of(args[1]));
        due.about("README.md");
        due.same("the first line of code", lines.isEmpty() ? "none" : lines.get(0), MADE);
        TreeSet<String> shown = new TreeSet<>();
        Played object = new Played();
        for (String line : lines.subList(Math.min(1, lines.size()), lines.size())) {
            Matcher call = SHOWN.matcher(line);
            if (call.matches()) {
                shown.add(call.group(1));
                due.same(line, object.answer(new Call(call.group(1), numbers(call.group(2)))), call.group(3));
            } else {
                due.same("a line of code", line, "a call with its answer");
            }
        }
        due.same("the calls that it shows", shown.toString(), callsOfTheFace().toString());
        due.end("ReadmeTest");
    }

    private static List<String> linesOfCode(Path readme) throws IOException {
        List<String> code = new ArrayList<>();
        boolean inside = false;
        for (String line : Files.readAllLines(readme)) {
            if (line.startsWith("```")) {
                inside = line.equals("```java");
            } else if (inside) {
                code.add(line);
            }
        }
        return code;
    }

    private static int[] numbers(String arguments) {
        return Arrays.stream(arguments.split(", ")).mapToInt(Integer::parseInt).toArray();
    }

    private static TreeSet<String> callsOfTheFace() {
        TreeSet<String> names = new TreeSet<>();
        for (Method method : ReservoirReed.class.getDeclaredMethods()) {
            if (Modifier.isPublic(method.getModifiers())) {
                names.add(method.getName());
            }
        }
        return names;
    }
}
