import java.io.IOException;
import java.lang.reflect.InvocationTargetException;
import java.lang.reflect.Method;
import java.lang.reflect.Modifier;
import java.nio.file.Files;
import java.nio.file.Path;
import java.util.ArrayList;
import java.util.Arrays;
import java.util.List;
import java.util.TreeSet;
import java.util.regex.Matcher;
import java.util.regex.Pattern;
import java.util.stream.Stream;

/** README.md says what is so. The arguments are README.md, .ci/run and the directory of the tests. */
public final class ReadmeTest {
    private static final Pattern TYPING = Pattern.compile("for \\(char c : \"(.*)\"\\.toCharArray\\(\\)\\) frame\\.append\\(c\\);");
    private static final Pattern CALL = Pattern.compile("frame\\.(\\w+)\\(([-\\d, ]*)\\);\\s+// (throws \\w+|[-\\d.]+).*");

    public static void main(String[] args) throws IOException {
        String readme = Files.readString(Path.of(args[0]));
        String runs = Files.readString(Path.of(args[1]));
        example(block(readme, "java"));
        face(readme);
        commands(block(readme, "sh"), runs, Path.of(args[2]));
        Check.end("ReadmeTest");
    }

    private static List<String> block(String readme, String kind) {
        Matcher found = Pattern.compile("(?s)```" + kind + "\n(.*?)\n```").matcher(readme);
        List<String> lines = new ArrayList<>();
        while (found.find()) {
            lines.addAll(List.of(found.group(1).split("\n")));
        }
        Check.same(kind + " is told", lines.isEmpty() ? 0 : 1, 1);
        return lines;
    }

    private static void example(List<String> lines) {
        Check.same("the example's first line", lines.get(0), "DrawnSlivers frame = new DrawnSlivers();");
        DrawnSlivers frame = new DrawnSlivers();
        for (String line : lines.subList(1, lines.size())) {
            Matcher typing = TYPING.matcher(line);
            Matcher call = CALL.matcher(line);
            if (typing.matches()) {
                Slivers.type(frame, typing.group(1));
            } else if (call.matches()) {
                Check.same(line, answer(frame, call.group(1), call.group(2)), call.group(3));
            } else {
                Check.fail("a line of the example is not read: " + line);
            }
        }
    }

    private static String answer(DrawnSlivers frame, String name, String arguments) {
        List<Object> values = new ArrayList<>();
        for (String argument : arguments.isEmpty() ? new String[0] : arguments.split(", ")) {
            values.add(Integer.valueOf(argument));
        }
        Class<?>[] types = new Class<?>[values.size()];
        Arrays.fill(types, int.class);
        try {
            return DrawnSlivers.class.getMethod(name, types).invoke(frame, values.toArray()).toString();
        } catch (InvocationTargetException e) {
            return "throws " + e.getCause().getClass().getSimpleName();
        } catch (ReflectiveOperationException e) {
            return "there is no such call";
        }
    }

    private static void face(String readme) {
        for (Method method : DrawnSlivers.class.getDeclaredMethods()) {
            if (Modifier.isPublic(method.getModifiers())) {
                Check.same(method.getName() + " is told", readme.contains("`" + method.getName() + "`") ? 1 : 0, 1);
            }
        }
    }

    /** Each test with a main method has its command, and .ci/run runs just those. */
    private static void commands(List<String> lines, String runs, Path tests) throws IOException {
        TreeSet<String> told = new TreeSet<>();
        Pattern command = Pattern.compile("java -cp build (\\w+).*");
        for (String line : lines) {
            Matcher found = command.matcher(line);
            if (found.matches()) {
                told.add(found.group(1));
            }
        }
        TreeSet<String> there = new TreeSet<>();
        try (Stream<Path> files = Files.list(tests)) {
            for (Path file : files.toList()) {
                if (Files.readString(file).contains("public static void main(")) {
                    there.add(file.getFileName().toString().replace(".java", ""));
                }
            }
        }
        Check.same("the tests that README.md tells", told.toString(), there.toString());
        for (String name : there) {
            Check.same(".ci/run runs " + name, runs.contains(name) ? 1 : 0, 1);
        }
    }
}
