import java.io.IOException;
import java.io.UncheckedIOException;
import java.lang.reflect.Constructor;
import java.lang.reflect.Field;
import java.lang.reflect.Method;
import java.lang.reflect.Modifier;
import java.nio.file.Files;
import java.nio.file.Path;
import java.util.ArrayList;
import java.util.Arrays;
import java.util.List;
import java.util.Set;
import java.util.TreeSet;
import java.util.stream.Collectors;

/** The public face of the class, and the rules of LANGUAGE.md that can be looked up. */
public final class FaceTest {

    private static final Check CHECK = new Check("FaceTest");

    private static final Set<String> FACE = new TreeSet<>(List.of(
            "int addResource(int) throws IllegalArgumentException, IllegalStateException",
            "int setCapacity(int, int) throws IndexOutOfBoundsException, IllegalArgumentException",
            "int setGroup(int, int, int) throws IndexOutOfBoundsException, IllegalArgumentException",
            "int setLimits(int, int) throws IllegalArgumentException",
            "int arrive(int, int) throws IndexOutOfBoundsException, IllegalArgumentException, IllegalStateException",
            "int depart(int) throws IndexOutOfBoundsException, NoSuchElementException",
            "boolean setAccepts(int, int) throws IndexOutOfBoundsException, NoSuchElementException, "
                    + "IllegalArgumentException",
            "int resourceCount()",
            "int arrivedCount()",
            "int assignedCount()",
            "int waitingCount()",
            "int assignedOf(int) throws IndexOutOfBoundsException",
            "int load(int) throws IndexOutOfBoundsException",
            "int state(int) throws IndexOutOfBoundsException",
            "int resourceOf(int) throws IndexOutOfBoundsException, NoSuchElementException",
            "int movesOf(int) throws IndexOutOfBoundsException",
            "int moveCount()",
            "int movedRequest(int) throws IndexOutOfBoundsException",
            "int movedTo(int) throws IndexOutOfBoundsException",
            "int movesNeeded(int) throws IndexOutOfBoundsException, NoSuchElementException",
            "int greatestPossible()",
            "int gainBy(int) throws IndexOutOfBoundsException",
            "double fairness()",
            "long digest()"));

    /** Rule 11 of LANGUAGE.md. */
    private static final int MOST_CLASSES = 12;
    private static final int MOST_FIELDS = 20;
    private static final int MOST_PARAMETERS = 7;

    public static void main(String[] args) throws IOException {
        Class<?> face = MatchingService.class;
        CHECK.due("the methods of the document", FACE, () -> methodsOf(document()));
        CHECK.due("the methods that are not private", FACE, () -> methodsOf(face));
        CHECK.due("public and final", true,
                () -> Modifier.isPublic(face.getModifiers()) && Modifier.isFinal(face.getModifiers()));
        CHECK.due("the constructors", List.of("public MatchingService()"), () -> constructorsOf(face));
        CHECK.due("fields that are not private", 0L, () -> countOpenFields(face));
        CHECK.due("classes inside that are public or protected", 0L, () -> countOpenClasses(face));
        CHECK.due("private methods with a public one's name", Set.of(), () -> namesTwiceUsed(face));
        CHECK.due("static fields that are not final", 0L, () -> countChangingStatics(face));
        lookAtSizes(face);
        lookAtSource(Files.readString(Path.of("src/main/java/MatchingService.java")));
        CHECK.end();
    }

    private static String document() {
        try {
            return Files.readString(Path.of("../shared/DOC.md"));
        } catch (IOException e) {
            throw new UncheckedIOException(e);
        }
    }

    private static void lookAtSizes(Class<?> face) {
        List<Class<?>> classes = new ArrayList<>(List.of(face.getDeclaredClasses()));
        classes.add(face);
        CHECK.due("at most twelve classes", true, () -> classes.size() <= MOST_CLASSES);
        for (Class<?> each : classes) {
            CHECK.due("at most twenty fields: " + each.getName(), true, () -> countOwnFields(each) <= MOST_FIELDS);
            for (Method method : each.getDeclaredMethods()) {
                CHECK.due("at most seven parameters: " + method, true,
                        () -> method.getParameterCount() <= MOST_PARAMETERS);
            }
        }
    }

    private static void lookAtSource(String source) {
        CHECK.due("what is made, but for exceptions and the fields' first values",
                List.of("Pool", "MoveLog", "PathSearch", "Placer", "Flow"), () -> madeIn(source));
        CHECK.due("imports", List.of("import java.util.NoSuchElementException;"),
                () -> source.lines().filter(line -> line.startsWith("import")).toList());
        for (String word : List.of("package ", "catch ", "finally", "synchronized", "assert ", "->", "::", "System.",
                "Exact(", "NaN", "instanceof")) {
            CHECK.due("the source holds '" + word + "'", false, () -> source.contains(word));
        }
    }

    /** The room of all calls is one: so nothing is made but in constructors, and exceptions. */
    private static List<String> madeIn(String source) {
        return source.lines()
                .filter(line -> line.contains("new ") && !line.contains("throw new ")
                        && !line.trim().startsWith("private final "))
                .map(line -> line.replaceAll(".*new (\\w+).*", "$1"))
                .toList();
    }

    private static Set<String> methodsOf(String document) {
        return document.lines()
                .dropWhile(line -> !line.startsWith("## The public face"))
                .takeWhile(line -> !line.startsWith("## Description"))
                .map(String::trim)
                .filter(line -> line.startsWith("public ") && !line.contains("class")
                        && !line.contains(" MatchingService("))
                .map(line -> line.replaceAll("^public |java\\.util\\.|;$", ""))
                .map(line -> line.replaceAll("(int|long|double|boolean) \\w+(?=[,)])", "$1"))
                .collect(Collectors.toCollection(TreeSet::new));
    }

    private static Set<String> methodsOf(Class<?> face) {
        return Arrays.stream(face.getDeclaredMethods())
                .filter(method -> !Modifier.isPrivate(method.getModifiers()))
                .map(FaceTest::described)
                .collect(Collectors.toCollection(TreeSet::new));
    }

    private static String described(Method method) {
        String thrown = namesOf(method.getExceptionTypes());
        return (Modifier.isPublic(method.getModifiers()) ? "" : "not public: ")
                + method.getReturnType().getSimpleName() + " " + method.getName()
                + "(" + namesOf(method.getParameterTypes()) + ")" + (thrown.isEmpty() ? "" : " throws " + thrown);
    }

    private static String namesOf(Class<?>[] types) {
        return Arrays.stream(types).map(Class::getSimpleName).collect(Collectors.joining(", "));
    }

    private static List<String> constructorsOf(Class<?> face) {
        return Arrays.stream(face.getDeclaredConstructors()).map(Constructor::toString).toList();
    }

    private static long countOwnFields(Class<?> owner) {
        return Arrays.stream(owner.getDeclaredFields())
                .filter(field -> !Modifier.isStatic(field.getModifiers()))
                .count();
    }

    private static long countOpenFields(Class<?> face) {
        return Arrays.stream(face.getDeclaredFields())
                .filter(field -> !Modifier.isPrivate(field.getModifiers()))
                .count();
    }

    private static long countOpenClasses(Class<?> face) {
        return Arrays.stream(face.getDeclaredClasses())
                .mapToInt(Class::getModifiers)
                .filter(modifiers -> Modifier.isPublic(modifiers) || Modifier.isProtected(modifiers))
                .count();
    }

    private static Set<String> namesTwiceUsed(Class<?> face) {
        Set<String> names = Arrays.stream(face.getMethods()).map(Method::getName).collect(Collectors.toSet());
        Set<String> twice = new TreeSet<>();
        collectPrivateNames(face, twice);
        for (Class<?> inside : face.getDeclaredClasses()) {
            collectPrivateNames(inside, twice);
        }
        twice.retainAll(names);
        return twice;
    }

    private static void collectPrivateNames(Class<?> owner, Set<String> names) {
        for (Method method : owner.getDeclaredMethods()) {
            if (Modifier.isPrivate(method.getModifiers())) {
                names.add(method.getName());
            }
        }
    }

    private static long countChangingStatics(Class<?> face) {
        return changingStaticsOf(face)
                + Arrays.stream(face.getDeclaredClasses()).mapToLong(FaceTest::changingStaticsOf).sum();
    }

    private static long changingStaticsOf(Class<?> owner) {
        return Arrays.stream(owner.getDeclaredFields())
                .map(Field::getModifiers)
                .filter(modifiers -> Modifier.isStatic(modifiers) && !Modifier.isFinal(modifiers))
                .count();
    }
}
