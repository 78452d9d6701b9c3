import java.io.IOException;
import java.lang.reflect.Constructor;
import java.lang.reflect.Field;
import java.lang.reflect.Method;
import java.lang.reflect.Modifier;
import java.nio.file.Files;
import java.nio.file.Path;
import java.util.List;
import java.util.Set;
import java.util.TreeSet;
import java.util.regex.Matcher;
import java.util.regex.Pattern;

/** Those rules of ../shared/LANGUAGE.md that are easily looked at; it runs where src lies. */
public final class RulesTest {
    private static final Checks CHECKS = new Checks();
    private static final Pattern DIVISION = Pattern.compile(" [/%] ?([\\w.]+(\\[\\w+\\])?|\\()");
    private static final Pattern STATIC_CALL = Pattern.compile("\\b([A-Z][a-z]\\w*)\\.(\\w+)\\(");

    public static void main(String[] args) throws IOException {
        lookAtFace();
        lookAtNames();
        lookAtConstructors();
        List<String> source = Files.readAllLines(Path.of("src/main/java/HiddenMoves.java"));
        lookAtSource(source);
        lookAtDivisors(source);
        lookAtLibrary(source);
        CHECKS.finish();
    }

    private static Set<String> dueMethods() {
        return new TreeSet<>(List.of("type long int:int", "read:int", "place:int", "count int:int", "sets int:int",
            "set int int int:int", "plans int:int",
            "tell int int int int int:void !IndexOutOfBoundsException !IllegalArgumentException", "good int:int",
            "solve:void !IllegalStateException", "expect:void !IllegalStateException",
            "judge int:void !IllegalArgumentException !IllegalStateException", "reply int int:int", "print int:int",
            "character int:int", "compare int int:int", "check:int"));
    }

    private static void lookAtFace() {
        Set<String> methods = new TreeSet<>();
        for (Method method : HiddenMoves.class.getDeclaredMethods()) {
            if (!Modifier.isPrivate(method.getModifiers())) {
                StringBuilder line = new StringBuilder(method.getName());
                for (Class<?> type : method.getParameterTypes()) {
                    line.append(' ').append(type.getSimpleName());
                }
                line.append(':').append(method.getReturnType().getSimpleName());
                for (Class<?> type : method.getExceptionTypes()) {
                    line.append(" !").append(type.getSimpleName());
                }
                methods.add(line.toString());
            }
        }
        CHECKS.due("methods", methods.toString(), dueMethods().toString());
        for (Field field : HiddenMoves.class.getDeclaredFields()) {
            boolean isHidden = Modifier.isPrivate(field.getModifiers());
            CHECKS.due("field " + field.getName(), isHidden || field.getName().equals("NONE") ? 1 : 0, 1);
        }
        Constructor<?>[] constructors = HiddenMoves.class.getDeclaredConstructors();
        CHECKS.due("constructors", constructors.length, 1);
        CHECKS.due("its parameters", constructors[0].getParameterCount(), 0);
        CHECKS.due("public and final", HiddenMoves.class.getModifiers(), Modifier.PUBLIC | Modifier.FINAL);
    }

    private static void lookAtNames() {
        Set<String> names = new TreeSet<>();
        for (String line : dueMethods()) {
            names.add(line.split("[ :]")[0]);
        }
        Class<?>[] classes = HiddenMoves.class.getDeclaredClasses();
        CHECKS.due("classes " + classes.length, classes.length <= 11 ? 1 : 0, 1);
        for (Class<?> type : classes) {
            CHECKS.due("static " + type, Modifier.isStatic(type.getModifiers()) ? 1 : 0, 1);
            for (Method method : type.getDeclaredMethods()) {
                CHECKS.due("name of " + method, names.contains(method.getName()) ? 1 : 0, 0);
                CHECKS.due("parameters of " + method, method.getParameterCount() <= 7 ? 1 : 0, 1);
            }
            lookAtFields(type);
        }
        lookAtFields(HiddenMoves.class);
    }

    private static void lookAtFields(Class<?> type) {
        Set<Class<?>> constants = Set.of(int.class, long.class, boolean.class, char.class, String.class);
        long fields = 0;
        for (Field field : type.getDeclaredFields()) {
            boolean isStatic = Modifier.isStatic(field.getModifiers());
            CHECKS.due("final " + field, isStatic && !Modifier.isFinal(field.getModifiers()) ? 1 : 0, 0);
            CHECKS.due("constant " + field, isStatic && !constants.contains(field.getType()) ? 1 : 0, 0);
            fields += isStatic ? 0 : 1;
        }
        CHECKS.due("fields of " + type, fields <= 20 ? 1 : 0, 1);
    }

    /** Rule 12: who is given nothing but numbers, when an object is made, is handed out nothing of that object. */
    private static void lookAtConstructors() {
        for (Class<?> type : HiddenMoves.class.getDeclaredClasses()) {
            for (Constructor<?> constructor : type.getDeclaredConstructors()) {
                for (Class<?> parameter : constructor.getParameterTypes()) {
                    CHECKS.due("handed out by " + constructor, parameter.isPrimitive() ? 1 : 0, 1);
                }
            }
        }
    }

    /** Rule 7: a divisor is a constant, or a name that one of the lines right before, or its own, compares with 0. */
    private static void lookAtDivisors(List<String> lines) {
        int looked = 0;
        for (int i = 0; i < lines.size(); i++) {
            Matcher division = DIVISION.matcher(lines.get(i).replaceAll("//.*|^ *\\*.*", ""));
            while (division.find()) {
                String divisor = division.group(1);
                String before = String.join(" ", lines.subList(Math.max(i - 3, 0), i + 1));
                boolean isLookedAt = divisor.matches("[A-Z_]+|[1-9][0-9]*")
                        || before.matches(".*\\b" + Pattern.quote(divisor) + " (==|!=|>) 0\\b.*");
                CHECKS.due("divisor in line " + (i + 1), isLookedAt ? 1 : 0, 1);
                looked++;
            }
        }
        CHECKS.due("divisions are found", looked > 0 ? 1 : 0, 1);
    }

    /** Rule 4. */
    private static void lookAtLibrary(List<String> lines) {
        Set<String> library = Set.of("Math.abs", "Math.max", "Math.min", "Integer.numberOfTrailingZeros",
            "System.arraycopy");
        Set<String> own = new TreeSet<>();
        for (Class<?> type : HiddenMoves.class.getDeclaredClasses()) {
            own.add(type.getSimpleName());
        }
        for (int i = 0; i < lines.size(); i++) {
            Matcher call = STATIC_CALL.matcher(lines.get(i));
            while (call.find()) {
                boolean isFine = own.contains(call.group(1)) || library.contains(call.group(1) + "." + call.group(2));
                CHECKS.due(call.group() + " in line " + (i + 1), isFine ? 1 : 0, 1);
            }
        }
    }

    private static void lookAtSource(List<String> lines) {
        int begin = 0;
        for (int i = 0; i < lines.size(); i++) {
            String line = lines.get(i);
            boolean isComment = line.strip().startsWith("*") || line.strip().startsWith("/");
            for (String word : List.of("import", "package", "->", "::", "Exact", "synchronized", "finally", "assert",
                    "double", "float", "while (true)", "for (;;)", "String", "catch")) {
                CHECKS.due(word + " in line " + (i + 1), !isComment && line.contains(word) ? 1 : 0, 0);
            }
            CHECKS.due("length of line " + (i + 1), line.length() <= 120 ? 1 : 0, 1);
            if (line.matches("( {4}| {8})[a-zA-Z].*\\) .*\\{") && !line.contains(" class ")) {
                begin = i;
            }
            if (line.matches("( {4}| {8})\\}")) {
                CHECKS.due("length of the method in line " + (begin + 1), i - begin < 60 ? 1 : 0, 1);
                begin = i;
            }
        }
    }
}
