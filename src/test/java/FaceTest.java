import java.lang.reflect.Constructor;
import java.lang.reflect.Field;
import java.lang.reflect.Method;
import java.lang.reflect.Modifier;
import java.nio.file.Files;
import java.nio.file.Path;
import java.util.Arrays;
import java.util.List;
import java.util.TreeSet;
import java.util.stream.Collectors;

/** The public face, and what can be seen of LANGUAGE.md from outside. */
public final class FaceTest {
    private static final String INDEX = " throws IndexOutOfBoundsException";
    private static final String ARGUMENT = " throws IllegalArgumentException";
    private static final String STATE = " throws IllegalArgumentException,IllegalStateException";
    private static final String BOTH = " throws IndexOutOfBoundsException,IllegalArgumentException";
    private static final String ALL = BOTH + ",IllegalStateException";

    private static final List<String> FACE = List.of(
            "int section(int,int,int,boolean)" + BOTH,
            "int station(int,int)" + STATE,
            "int train(int,int,int,boolean)" + STATE,
            "boolean whole(int,boolean)" + INDEX,
            "int works(int,int)" + ALL,
            "int end(int)" + INDEX,
            "int pass(int)" + ARGUMENT,
            "int ofSection(int,int)" + BOTH,
            "int ofTrain(int,int)" + BOTH,
            "int stops(int,int)" + BOTH,
            "int may(int)" + INDEX,
            "int why(int)" + INDEX,
            "int ofStation(int,int)" + BOTH,
            "int many(int)" + ARGUMENT,
            "double meanSpeed()",
            "int reaches(int,int,int)" + BOTH,
            "int closest(int,int)" + BOTH,
            "int lost(int,int,int,int)" + BOTH,
            "int worksIn(int,int,int)" + BOTH,
            "long digest()");

    public static void main(String[] args) throws Exception {
        Class<?> type = BrakeCurve.class;
        Check.due("the class is public and final", Modifier.PUBLIC | Modifier.FINAL, type.getModifiers());
        Check.due("its package", "", type.getPackageName());
        Check.due("constructors", 1, type.getDeclaredConstructors().length);
        for (Constructor<?> constructor : type.getDeclaredConstructors()) {
            Check.due("the constructor", "public BrakeCurve()", constructor.toString());
        }
        for (Field field : type.getDeclaredFields()) {
            Check.isTrue(field + " is private", Modifier.isPrivate(field.getModifiers()));
            Check.isTrue(field + " is final", Modifier.isFinal(field.getModifiers()));
        }
        checkMethods(type);
        for (Class<?> inside : type.getDeclaredClasses()) {
            Check.isTrue(inside + " is static", Modifier.isStatic(inside.getModifiers()));
            Check.isTrue(inside + " is not public", !Modifier.isPublic(inside.getModifiers()));
            Check.isTrue(inside + " has few fields", inside.getDeclaredFields().length <= 20);
        }
        checkSource();
        Check.end("FaceTest");
    }

    private static void checkMethods(Class<?> type) {
        TreeSet<String> open = new TreeSet<>();
        TreeSet<String> names = new TreeSet<>();
        for (Method method : type.getDeclaredMethods()) {
            if (!Modifier.isPrivate(method.getModifiers())) {
                open.add(told(method));
                names.add(method.getName());
                Check.due(method + " is public alone", Modifier.PUBLIC, method.getModifiers());
            }
        }
        Check.due("the methods that are not private", new TreeSet<>(FACE), open);
        for (Method method : type.getDeclaredMethods()) {
            boolean isPrivate = Modifier.isPrivate(method.getModifiers());
            Check.isTrue(method + " bears no public name", !isPrivate || !names.contains(method.getName()));
        }
    }

    private static String told(Method method) {
        String parameters = Arrays.stream(method.getParameterTypes()).map(Class::getSimpleName)
                .collect(Collectors.joining(","));
        String thrown = Arrays.stream(method.getExceptionTypes()).map(Class::getSimpleName)
                .collect(Collectors.joining(","));
        return method.getReturnType().getSimpleName() + " " + method.getName() + "(" + parameters + ")"
                + (thrown.isEmpty() ? "" : " throws " + thrown);
    }

    private static void checkSource() throws Exception {
        String source = Files.readString(Path.of("src/main/java/BrakeCurve.java"));
        for (String banned : List.of("package ", "->", "::", "finally", "synchronized", "assert ", "Exact(",
                "System.nanoTime", "System.currentTimeMillis", "Math.random", "Thread", "getMessage")) {
            Check.isTrue("the source is without '" + banned + "'", !source.contains(banned));
        }
        Check.isTrue("the source is ASCII", source.chars().allMatch(c -> c == '\n' || c >= 32 && c < 127));
    }
}
