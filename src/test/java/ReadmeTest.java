import java.io.IOException;
import java.lang.reflect.Method;
import java.lang.reflect.Modifier;
import java.net.URL;
import java.net.URLClassLoader;
import java.nio.file.Files;
import java.nio.file.Path;
import java.util.ArrayList;
import java.util.Comparator;
import java.util.List;
import java.util.Set;
import java.util.TreeSet;
import java.util.regex.Matcher;
import java.util.regex.Pattern;
import java.util.stream.Stream;
import javax.tools.ToolProvider;

/** What README.md says: its calls answer what stands behind them, and it names all calls and all tests. */
public final class ReadmeTest {
    private static final Checks CHECKS = new Checks();
    /** A call, and behind it the answer or what is thrown: up to a colon or the line's end. */
    private static final Pattern CALL =
        Pattern.compile("((?:x|new HiddenMoves\\(\\))\\.(\\w+)|(\\w+))\\((.*)\\); *(?:// (.*))?");
    private static final Pattern ANSWER = Pattern.compile("(-?[0-9]+(?:/[0-9]+)?)(: .*)?");
    private static final Pattern THROWN = Pattern.compile("throws (\\w+)(: .*)?");

    public static void main(String[] args) throws IOException, ReflectiveOperationException {
        List<String> readme = Files.readAllLines(Path.of("README.md"));
        lookAtCalls(readme);
        lookAtNames(String.join("\n", readme));
        CHECKS.finish();
    }

    private static List<List<String>> blocks(List<String> readme, String language) {
        List<List<String>> blocks = new ArrayList<>();
        boolean isInside = false;
        for (String line : readme) {
            if (line.equals("```" + language)) {
                blocks.add(new ArrayList<>());
                isInside = true;
            } else if (line.startsWith("```")) {
                isInside = false;
            } else if (isInside) {
                blocks.get(blocks.size() - 1).add(line);
            }
        }
        return blocks;
    }

    private static Set<String> methodsWithAnswer() {
        Set<String> names = new TreeSet<>(Set.of("printed"));
        for (Method method : HiddenMoves.class.getDeclaredMethods()) {
            if (method.getReturnType() != void.class) {
                names.add(method.getName());
            }
        }
        return names;
    }

    /** The first block are methods, the second is the run of calls. */
    private static void lookAtCalls(List<String> readme) throws IOException, ReflectiveOperationException {
        List<List<String>> blocks = blocks(readme, "java");
        CHECKS.due("blocks of Java", blocks.size(), 2);
        List<String> due = new ArrayList<>();
        List<String> calls = new ArrayList<>();
        StringBuilder body = new StringBuilder();
        for (String line : blocks.get(1)) {
            body.append(statement(line, calls, due)).append('\n');
        }
        List<String> got = run(String.join("\n", blocks.get(0)), body.toString());
        CHECKS.due("answers", got.size(), due.size());
        CHECKS.due("there are many: " + due.size(), due.size() >= 40 ? 1 : 0, 1);
        for (int i = 0; i < Math.min(due.size(), got.size()); i++) {
            CHECKS.due(calls.get(i), got.get(i), due.get(i));
        }
    }

    /** A line as it is to be compiled: what it answers or throws goes into a list. */
    private static String statement(String line, List<String> calls, List<String> due) {
        Matcher call = CALL.matcher(line);
        if (!call.matches()) {
            boolean isFine = line.isBlank() || line.startsWith("//") || line.startsWith("HiddenMoves x = new ");
            CHECKS.due("line that is no call: " + line, isFine ? 1 : 0, 1);
            return line;
        }
        String name = call.group(2) != null ? call.group(2) : call.group(3);
        String expression = call.group(1) + "(" + call.group(4) + ")";
        String comment = call.group(5) != null ? call.group(5) : "";
        Matcher thrown = THROWN.matcher(comment);
        Matcher answer = ANSWER.matcher(comment);
        boolean hasAnswer = methodsWithAnswer().contains(name);
        calls.add(line);
        if (thrown.matches()) {
            due.add(thrown.group(1));
            return "try { " + expression + "; got.add(\"nothing\"); } "
                + "catch (RuntimeException e) { got.add(e.getClass().getSimpleName()); }";
        }
        if (hasAnswer) {
            CHECKS.due("it has an answer: " + line, answer.matches() ? 1 : 0, 1);
            due.add(answer.matches() ? answer.group(1) : "");
            return "got.add(String.valueOf(" + expression + "));";
        }
        CHECKS.due("it has no answer: " + line, answer.matches() ? 1 : 0, 0);
        due.add("nothing");
        return expression + "; got.add(\"nothing\");";
    }

    private static List<String> run(String methods, String body) throws IOException, ReflectiveOperationException {
        Path place = Files.createTempDirectory("readme");
        try {
            Path source = place.resolve("ReadmeCalls.java");
            Files.writeString(source, "public final class ReadmeCalls {\n" + methods
                + "\npublic static java.util.List<String> run() {\n"
                + "java.util.List<String> got = new java.util.ArrayList<>();\n" + body + "return got;\n}\n}\n");
            int code = ToolProvider.getSystemJavaCompiler().run(null, null, null, "-cp",
                System.getProperty("java.class.path"), "-d", place.toString(), source.toString());
            CHECKS.due("it compiles", code, 0);
            return code == 0 ? answers(place) : List.of();
        } finally {
            remove(place);
        }
    }

    private static List<String> answers(Path place) throws IOException, ReflectiveOperationException {
        try (URLClassLoader loader = new URLClassLoader(new URL[] {place.toUri().toURL()})) {
            List<String> got = new ArrayList<>();
            for (Object answer : (List<?>) loader.loadClass("ReadmeCalls").getMethod("run").invoke(null)) {
                got.add((String) answer);
            }
            return got;
        }
    }

    private static void remove(Path place) throws IOException {
        try (Stream<Path> all = Files.walk(place)) {
            for (Path path : all.sorted(Comparator.reverseOrder()).toList()) {
                Files.delete(path);
            }
        }
    }

    private static void lookAtNames(String readme) throws IOException {
        for (Method method : HiddenMoves.class.getDeclaredMethods()) {
            if (Modifier.isPublic(method.getModifiers())) {
                CHECKS.due("it names " + method.getName(), readme.contains("`" + method.getName() + "(") ? 1 : 0, 1);
            }
        }
        Set<String> tests = new TreeSet<>();
        try (Stream<Path> all = Files.list(Path.of("src/test/java"))) {
            for (Path path : all.toList()) {
                String name = path.getFileName().toString().replace(".java", "");
                if (name.endsWith("Test")) {
                    tests.add(name);
                }
            }
        }
        Set<String> named = new TreeSet<>();
        Matcher name = Pattern.compile("`(\\w+Test)`").matcher(readme);
        while (name.find()) {
            named.add(name.group(1));
        }
        CHECKS.due("the tests that it names", named.toString(), tests.toString());
        CHECKS.due("it says how to run them", readme.contains("\n```sh\n.ci/run\n```\n") ? 1 : 0, 1);
        CHECKS.due(".ci/run is there", Files.exists(Path.of(".ci/run")) ? 1 : 0, 1);
    }
}
