import java.io.IOException;
import java.lang.reflect.Method;
import java.lang.reflect.Modifier;
import java.nio.ByteBuffer;
import java.nio.charset.StandardCharsets;
import java.nio.file.Files;
import java.nio.file.Path;
import java.util.ArrayList;
import java.util.List;
import java.util.Set;
import java.util.TreeSet;
import java.util.regex.Matcher;
import java.util.regex.Pattern;
import java.util.stream.Stream;

/** README.md tells the truth: its examples, its table of calls, and its commands, which are those of .ci/run. */
public final class ReadmeTest {
    private static final Pattern TOLD = Pattern.compile("^tell\\(x, \"([^\"]*)\"\\); +// (-?\\d+)\\b.*");
    private static final Pattern CALLED = Pattern.compile("^x\\.(\\w+)\\(([-\\d, ]*)\\); +// (-?\\d+)\\b.*");
    private static int wrong = 0;

    public static void main(String[] args) throws IOException, ReflectiveOperationException {
        List<String> readme = Files.readAllLines(Path.of("README.md"));
        examples(blocksOf(readme, "java"));
        helper(blocksOf(readme, "java"));
        table(readme);
        commands(blocksOf(readme, "sh"));
        System.out.println(wrong == 0 ? "README.md tells the truth" : wrong + " lines of README.md are wrong");
        System.exit(wrong == 0 ? 0 : 1);
    }

    private static void due(String what, Object got, Object want) {
        if (!got.equals(want)) {
            wrong++;
            System.out.println(what + ": is " + got + ", due is " + want);
        }
    }

    private static void dueSet(String what, Set<String> got, Set<String> want) {
        Set<String> missing = new TreeSet<>(want);
        missing.removeAll(got);
        Set<String> extra = new TreeSet<>(got);
        extra.removeAll(want);
        due(what + " that are missing", missing, Set.of());
        due(what + " that should not be", extra, Set.of());
    }

    private static List<String> blocksOf(List<String> readme, String kind) {
        List<String> inside = new ArrayList<>();
        boolean isInside = false;
        for (String line : readme) {
            if (line.startsWith("```")) {
                isInside = line.equals("```" + kind);
            } else if (isInside) {
                inside.add(line);
            }
        }
        return inside;
    }

    static int tell(ThatchNext x, String text) {
        byte[] bytes = text.getBytes(StandardCharsets.ISO_8859_1);
        ByteBuffer blocks = ByteBuffer.allocate((bytes.length + 19) / 20 * 20);
        blocks.put(bytes).rewind();
        while (blocks.hasRemaining()) {
            x.feed(blocks.getInt(), blocks.getInt(), blocks.getInt(), blocks.getInt(), blocks.getInt());
        }
        return x.row(bytes.length);
    }

    /** All examples are about one object, from line to line. */
    private static void examples(List<String> lines) throws ReflectiveOperationException {
        ThatchNext x = new ThatchNext();
        int answers = 0;
        for (String line : lines) {
            Matcher told = TOLD.matcher(line);
            Matcher called = CALLED.matcher(line);
            if (told.matches()) {
                due(line, (long) tell(x, told.group(1)), Long.parseLong(told.group(2)));
                answers++;
            } else if (called.matches()) {
                due(line, answer(x, called.group(1), called.group(2)), Long.parseLong(called.group(3)));
                answers++;
            } else {
                due(line, line.startsWith("x.") || line.startsWith("tell("), false);
            }
        }
        due("examples are there", answers > 20, true);
    }

    private static long answer(ThatchNext x, String name, String numbers) throws ReflectiveOperationException {
        String[] given = numbers.isEmpty() ? new String[0] : numbers.split(", ");
        for (Method call : ThatchNext.class.getMethods()) {
            if (call.getName().equals(name) && call.getParameterCount() == given.length) {
                Object[] arguments = new Object[given.length];
                for (int i = 0; i < given.length; i++) {
                    boolean isInt = call.getParameterTypes()[i] == int.class;
                    arguments[i] = isInt ? (Object) Integer.valueOf(given[i]) : (Object) Long.valueOf(given[i]);
                }
                return ((Number) call.invoke(x, arguments)).longValue();
            }
        }
        throw new NoSuchMethodException(name + " with " + given.length + " numbers");
    }

    /** The helper of README.md is the one that stands here and so is compiled and used. */
    private static void helper(List<String> lines) throws IOException {
        String here = squeezed(Files.readString(Path.of("src/test/java/ReadmeTest.java")));
        int begin = lines.indexOf("static int tell(ThatchNext x, String text) {");
        int end = lines.indexOf("}");
        due("the helper is there", begin >= 0 && end > begin, true);
        if (begin >= 0 && end > begin) {
            due("the helper", here.contains(squeezed(String.join("\n", lines.subList(begin, end + 1)))), true);
        }
    }

    private static String squeezed(String text) {
        return text.replaceAll("\\s+", " ").trim();
    }

    private static void table(List<String> readme) {
        Set<String> named = new TreeSet<>();
        for (String line : readme) {
            Matcher call = Pattern.compile("`(\\w+)`").matcher(line);
            while (line.startsWith("| `") && call.find()) {
                named.add(call.group(1));
            }
        }
        Set<String> calls = new TreeSet<>();
        for (Method call : ThatchNext.class.getDeclaredMethods()) {
            if (Modifier.isPublic(call.getModifiers())) {
                calls.add(call.getName());
            }
        }
        dueSet("calls in the table", named, calls);
    }

    private static void commands(List<String> lines) throws IOException {
        Set<String> named = new TreeSet<>();
        for (String line : lines) {
            if (!line.isEmpty() && !line.equals(".ci/run")) {
                named.add(line.replace("\"", ""));
            }
        }
        Set<String> run = new TreeSet<>();
        for (String path : testPaths(lines)) {
            run.addAll(commandsFor(path));
        }
        dueSet("commands", named, run);
        due(".ci/run is named", lines.contains(".ci/run"), true);
    }

    /** All tests of the project, and of the shared ones those that README.md names: more of them may come. */
    private static Set<String> testPaths(List<String> lines) throws IOException {
        Set<String> paths = new TreeSet<>();
        try (Stream<Path> files = Files.list(Path.of("src/test/java"))) {
            files.forEach(file -> paths.add(file.toString()));
        }
        for (String line : lines) {
            String last = line.substring(line.lastIndexOf(' ') + 1);
            if (last.startsWith("../shared/tests/")) {
                paths.add(last);
            }
        }
        return paths;
    }

    /** The commands of .ci/run, with the names of one test in place of its variables. */
    private static Set<String> commandsFor(String path) throws IOException {
        String name = path.replaceAll(".*/|\\.java$", "");
        Set<String> commands = new TreeSet<>();
        for (String line : Files.readAllLines(Path.of(".ci/run"))) {
            Matcher command = Pattern.compile("^\\s*(?:&& )?((?:javac|java|built=).*?)(?: \\\\|; then| \\|\\| exit 1)?$")
                .matcher(line);
            if (command.matches()) {
                String told = command.group(1).replace("$test", path).replace("$name", name);
                commands.add(told.replace("\"", ""));
            }
        }
        return commands;
    }
}
