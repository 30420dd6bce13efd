import java.io.IOException;
import java.lang.reflect.Method;
import java.lang.reflect.Modifier;
import java.net.URL;
import java.net.URLClassLoader;
import java.nio.file.Files;
import java.nio.file.Path;
import java.util.ArrayList;
import java.util.List;
import java.util.Set;
import java.util.TreeSet;
import java.util.regex.Matcher;
import java.util.regex.Pattern;
import java.util.stream.Stream;
import javax.tools.JavaCompiler;
import javax.tools.ToolProvider;

/** README.md as it is printed: its lines of Java are compiled and run, and each call answers what stands behind it. */
public final class ReadmeTest {
    private static final String NEW_BOOK = "TelegraphPrices \\w+ = new TelegraphPrices\\(\\);";
    // A variable's name or none, the call, its answer, and what is said behind a colon.
    private static final Pattern SHOWN_CALL =
        Pattern.compile("(?:int (\\w+) = )?(book\\.(\\w+)\\([^()]*\\)); +// (throws \\w+|-?[\\w.]+)(: .+)?");

    public static void main(String[] args) throws IOException, ReflectiveOperationException {
        Check check = new Check();
        List<String> readme = Files.readAllLines(Path.of("README.md"));
        List<String> program = linesOfJava(readme);
        everyLineIsUnderstood(check, program);
        everyCallIsShown(check, program);
        everyAnswerHolds(check, program);
        everyTestIsNamed(check, String.join("\n", readme));
        check.end();
    }

    private static List<String> linesOfJava(List<String> readme) {
        List<String> lines = new ArrayList<>();
        boolean java = false;
        for (String line : readme) {
            if (line.startsWith("```")) {
                java = line.equals("```java");
            } else if (java && !line.isBlank()) {
                lines.add(line);
            }
        }
        return lines;
    }

    /** So that no call slips by without its answer. */
    private static void everyLineIsUnderstood(Check check, List<String> program) {
        for (String line : program) {
            boolean understood = line.matches(NEW_BOOK) || SHOWN_CALL.matcher(line).matches();
            check.is("a line with a call and its answer: " + line, understood, true);
        }
    }

    private static void everyCallIsShown(Check check, List<String> program) {
        Set<String> shown = new TreeSet<>();
        for (Matcher call : shownCalls(program)) {
            shown.add(call.group(3));
        }
        for (Method method : TelegraphPrices.class.getDeclaredMethods()) {
            if (Modifier.isPublic(method.getModifiers())) {
                check.is(method.getName() + " is shown", shown.contains(method.getName()), true);
            }
        }
    }

    private static List<Matcher> shownCalls(List<String> program) {
        List<Matcher> calls = new ArrayList<>();
        for (String line : program) {
            Matcher call = SHOWN_CALL.matcher(line);
            if (call.matches()) {
                calls.add(call);
            }
        }
        return calls;
    }

    private static void everyAnswerHolds(Check check, List<String> program)
            throws IOException, ReflectiveOperationException {
        List<Matcher> calls = shownCalls(program);
        List<?> answers = answersOf(check, sourceOf(program));
        check.is("how many answers", answers.size(), calls.size());
        for (int number = 0; number < Math.min(answers.size(), calls.size()); number++) {
            Matcher call = calls.get(number);
            check.isText("README.md: " + call.group(2), String.valueOf(answers.get(number)), call.group(4));
        }
    }

    private static String sourceOf(List<String> program) {
        StringBuilder source = new StringBuilder("public final class ReadmeProgram {\n");
        source.append("public static java.util.List<String> answers() {\n");
        source.append("java.util.List<String> answers = new java.util.ArrayList<>();\n");
        for (String line : program) {
            Matcher call = SHOWN_CALL.matcher(line);
            if (!call.matches()) {
                source.append(line).append('\n');
            } else if (call.group(1) != null) {
                source.append(line).append("\nanswers.add(String.valueOf(").append(call.group(1)).append("));\n");
            } else {
                source.append("try {\nanswers.add(String.valueOf(").append(call.group(2)).append("));\n");
                source.append("} catch (RuntimeException thrown) {\n");
                source.append("answers.add(\"throws \" + thrown.getClass().getSimpleName());\n}\n");
            }
        }
        return source.append("return answers;\n}\n}\n").toString();
    }

    private static List<?> answersOf(Check check, String source) throws IOException, ReflectiveOperationException {
        Path folder = Files.createTempDirectory("readme");
        Path file = folder.resolve("ReadmeProgram.java");
        Path compiled = folder.resolve("ReadmeProgram.class");
        for (Path path : List.of(folder, file, compiled)) {
            path.toFile().deleteOnExit();
        }
        Files.writeString(file, source);
        JavaCompiler compiler = ToolProvider.getSystemJavaCompiler();
        int exit = compiler.run(null, null, null, "-encoding", "UTF-8",
            "-cp", System.getProperty("java.class.path"), "-d", folder.toString(), file.toString());
        check.is("javac of what README.md shows", exit, 0);
        if (exit != 0) {
            return List.of();
        }
        try (URLClassLoader loader = new URLClassLoader(new URL[] {folder.toUri().toURL()})) {
            return (List<?>) loader.loadClass("ReadmeProgram").getMethod("answers").invoke(null);
        }
    }

    private static void everyTestIsNamed(Check check, String readme) throws IOException {
        Set<String> named = new TreeSet<>();
        Matcher names = Pattern.compile("`(\\w+Test)`").matcher(readme);
        while (names.find()) {
            named.add(names.group(1));
        }
        Set<String> there = new TreeSet<>();
        try (Stream<Path> files = Files.list(Path.of("src/test/java"))) {
            files.map(file -> file.getFileName().toString())
                .filter(name -> name.endsWith("Test.java"))
                .forEach(name -> there.add(name.substring(0, name.length() - ".java".length())));
        }
        check.isText("the tests that README.md names", named.toString(), there.toString());
    }
}
