import java.io.IOException;
import java.lang.reflect.Constructor;
import java.lang.reflect.Executable;
import java.lang.reflect.Field;
import java.lang.reflect.Method;
import java.lang.reflect.Modifier;
import java.nio.file.Files;
import java.nio.file.Path;
import java.util.Arrays;
import java.util.List;
import java.util.Set;
import java.util.TreeSet;
import java.util.stream.Collectors;

/** The public face to the letter, and those rules of the language that members and source text show. */
public final class FaceTest {
    private static final Check CHECK = new Check();
    private static final Path SOURCE = Path.of("src/main/java/WeightedClauses.java");
    private static final String ARGUMENT = " throws IllegalArgumentException";
    private static final List<String> FACE = List.of(
            "int variables()",
            "int clause(int, int, int, int, int)" + ARGUMENT + ", IllegalStateException",
            "int drop()",
            "int weigh(int, int)" + ARGUMENT,
            "int clauses()",
            "long cost(int, int)" + ARGUMENT,
            "long bound(int, int)" + ARGUMENT,
            "long subset(int, int, int)" + ARGUMENT,
            "int first(int, int)" + ARGUMENT,
            "long solve()",
            "int value(int)",
            "int nodes()",
            "int logged()",
            "int log(int, int)",
            "long best(int)");
    private static final List<String> NOT_IN_THE_SOURCE = List.of(
            "import ", "package ", "->", "::", "synchronized", "assert ", "finally", "System.", "Exact(",
            "equals(", "hashCode(", "toString(", "@");

    public static void main(String[] args) throws IOException {
        methods();
        constructorAndConstants();
        nothingElseIsVisible();
        noPrivateMethodBearsAPublicName();
        classesInside();
        sourceText();
        CHECK.finish();
    }

    private static void methods() {
        Set<String> found = new TreeSet<>();
        for (Method method : WeightedClauses.class.getDeclaredMethods()) {
            if (Modifier.isPublic(method.getModifiers())) {
                CHECK.due(method + " is not static", Modifier.isStatic(method.getModifiers()) ? 1 : 0, 0);
                found.add(method.getReturnType().getSimpleName() + " " + method.getName() + told(method));
            }
        }
        CHECK.dueText("public methods", found.toString(), new TreeSet<>(FACE).toString());
    }

    private static String told(Executable executable) {
        String thrown = names(executable.getExceptionTypes());
        return "(" + names(executable.getParameterTypes()) + ")" + (thrown.isEmpty() ? "" : " throws " + thrown);
    }

    private static String names(Class<?>[] types) {
        return Arrays.stream(types).map(Class::getSimpleName).collect(Collectors.joining(", "));
    }

    private static void constructorAndConstants() {
        CHECK.due("modifiers", WeightedClauses.class.getModifiers(), Modifier.PUBLIC | Modifier.FINAL);
        Constructor<?>[] constructors = WeightedClauses.class.getDeclaredConstructors();
        CHECK.due("constructors", constructors.length, 1);
        CHECK.due("public", constructors[0].getModifiers(), Modifier.PUBLIC);
        CHECK.dueText("its parameters", told(constructors[0]), "(int)");
        CHECK.due("NONE", WeightedClauses.NONE, -1);
        CHECK.due("HOPELESS", WeightedClauses.HOPELESS, -2);
        Set<String> constants = new TreeSet<>();
        for (Field field : WeightedClauses.class.getDeclaredFields()) {
            if (Modifier.isPublic(field.getModifiers())) {
                constants.add(Modifier.toString(field.getModifiers()) + " " + field.getType() + " " + field.getName());
            }
        }
        CHECK.dueText("constants", constants.toString(),
                "[public static final int HOPELESS, public static final int NONE]");
    }

    private static void nothingElseIsVisible() {
        int shown = Modifier.PUBLIC | Modifier.PRIVATE;
        for (Method method : WeightedClauses.class.getDeclaredMethods()) {
            CHECK.due(method + " is public or private", (method.getModifiers() & shown) != 0 ? 1 : 0, 1);
        }
        for (Field field : WeightedClauses.class.getDeclaredFields()) {
            CHECK.due(field + " is public or private", (field.getModifiers() & shown) != 0 ? 1 : 0, 1);
        }
    }

    private static void noPrivateMethodBearsAPublicName() {
        Set<String> publicNames = new TreeSet<>();
        for (Method method : WeightedClauses.class.getMethods()) {
            publicNames.add(method.getName());
        }
        for (Method method : WeightedClauses.class.getDeclaredMethods()) {
            if (!Modifier.isPublic(method.getModifiers())) {
                CHECK.due(method + " bears a public name", publicNames.contains(method.getName()) ? 1 : 0, 0);
            }
        }
        for (Class<?> inside : WeightedClauses.class.getDeclaredClasses()) {
            for (Method method : inside.getDeclaredMethods()) {
                CHECK.due(method + " bears a public name", publicNames.contains(method.getName()) ? 1 : 0, 0);
            }
        }
    }

    private static void classesInside() {
        Class<?>[] inside = WeightedClauses.class.getDeclaredClasses();
        CHECK.due("at most eleven classes inside", inside.length <= 11 ? 1 : 0, 1);
        for (Class<?> one : inside) {
            int modifiers = one.getModifiers();
            CHECK.due(one + " is static", Modifier.isStatic(modifiers) ? 1 : 0, 1);
            CHECK.due(one + " is not shown", Modifier.isPublic(modifiers) || Modifier.isProtected(modifiers) ? 1 : 0, 0);
            CHECK.due(one + " has at most twenty fields", one.getDeclaredFields().length <= 20 ? 1 : 0, 1);
            for (Field field : one.getDeclaredFields()) {
                boolean changes = Modifier.isStatic(field.getModifiers()) && !Modifier.isFinal(field.getModifiers());
                CHECK.due(field + " is static and changes", changes ? 1 : 0, 0);
            }
            for (Method method : one.getDeclaredMethods()) {
                CHECK.due(method + " has at most seven parameters", method.getParameterCount() <= 7 ? 1 : 0, 1);
            }
        }
    }

    private static void sourceText() throws IOException {
        String source = Files.readString(SOURCE);
        for (String text : NOT_IN_THE_SOURCE) {
            CHECK.due("the source has '" + text + "'", source.contains(text) ? 1 : 0, 0);
        }
        CHECK.due("only plain characters", source.chars().allMatch(c -> c < 128) ? 1 : 0, 1);
    }
}
