import java.io.IOException;
import java.lang.reflect.Constructor;
import java.lang.reflect.Field;
import java.lang.reflect.Method;
import java.lang.reflect.Modifier;
import java.nio.file.Files;
import java.nio.file.Path;
import java.util.Arrays;
import java.util.TreeSet;

/** The public face, and the rules of LANGUAGE.md that can be seen without understanding the program. */
final class FaceTest {
    private static final String INDEX = "IndexOutOfBoundsException ";
    private static final String ARGUMENT = "IllegalArgumentException ";
    private static final String STATE = "IllegalStateException ";

    private static final String[] FACE = {
        "int group(int, int, int, boolean, boolean) " + INDEX + ARGUMENT + STATE,
        "int trust(int, int) " + INDEX + ARGUMENT,
        "int shelter(int, int) " + INDEX + ARGUMENT + STATE,
        "int siren(int, int) " + INDEX + ARGUMENT + STATE,
        "int mast(int, int) " + INDEX + ARGUMENT + STATE,
        "int power(int, boolean) " + INDEX,
        "int lines(int) " + ARGUMENT,
        "int danger(int, int) " + INDEX + ARGUMENT,
        "boolean key(int, boolean) " + INDEX,
        "int alert(int, int, int) " + ARGUMENT + STATE,
        "int update(int, int, int, int) " + INDEX + ARGUMENT + STATE,
        "int cancel(int) " + INDEX + STATE,
        "int approve(int, int) " + INDEX + STATE,
        "int send(int) " + INDEX + STATE,
        "int pass(int) " + ARGUMENT + STATE,
        "int until(int) " + ARGUMENT + STATE,
        "int ofGroup(int, int) " + INDEX + ARGUMENT,
        "int heard(int, int, int) " + INDEX + ARGUMENT,
        "int ofWarning(int, int) " + INDEX + ARGUMENT,
        "int inForce(int) " + INDEX,
        "int roomIn(int) " + INDEX,
        "int chain(int, int) " + INDEX,
        "int many(int) " + ARGUMENT,
        "double meanDelay(int) " + INDEX,
        "int safeIn(int, int) " + INDEX + ARGUMENT,
        "int sirenWould(int, int, int) " + INDEX + ARGUMENT,
        "long digest() ",
    };

    private static final String[] NOT_IN_THE_LANGUAGE = {
        "->", "::", "finally", "synchronized", "assert", "System.out", "Exact(", "static {",
    };

    public static void main(String[] args) throws IOException {
        publicMethods();
        nothingElseIsVisible();
        insideClasses();
        words();
        Check.end("FaceTest");
    }

    private static String names(Class<?>[] types, String between) {
        StringBuilder text = new StringBuilder();
        for (Class<?> type : types) {
            text.append(text.length() == 0 ? "" : between).append(type.getSimpleName());
        }
        return text.toString();
    }

    private static void publicMethods() {
        TreeSet<String> got = new TreeSet<>();
        for (Method method : WarnWave.class.getDeclaredMethods()) {
            if (Modifier.isPublic(method.getModifiers())) {
                String thrown = names(method.getExceptionTypes(), " ");
                got.add(method.getReturnType().getSimpleName() + " " + method.getName() + "("
                        + names(method.getParameterTypes(), ", ") + ") " + thrown + (thrown.isEmpty() ? "" : " "));
            }
        }
        TreeSet<String> want = new TreeSet<>(Arrays.asList(FACE));
        Check.due("the face: " + got, got.equals(want), true);
        Check.due("the class is public and final", WarnWave.class.getModifiers(), Modifier.PUBLIC | Modifier.FINAL);
        Constructor<?>[] made = WarnWave.class.getDeclaredConstructors();
        Check.due("one constructor", made.length, 1);
        Check.due("it is public", Modifier.isPublic(made[0].getModifiers()), true);
        Check.due("it takes nothing", made[0].getParameterCount(), 0);
    }

    private static void nothingElseIsVisible() {
        TreeSet<String> publicNames = new TreeSet<>();
        for (Method method : WarnWave.class.getDeclaredMethods()) {
            if (Modifier.isPublic(method.getModifiers())) {
                publicNames.add(method.getName());
            }
        }
        for (Method method : WarnWave.class.getDeclaredMethods()) {
            boolean isPublic = Modifier.isPublic(method.getModifiers());
            Check.due(method + " is private", isPublic || Modifier.isPrivate(method.getModifiers()), true);
            Check.due(method + " has its own name", isPublic || !publicNames.contains(method.getName()), true);
        }
        for (Field field : WarnWave.class.getDeclaredFields()) {
            Check.due(field + " is private", Modifier.isPrivate(field.getModifiers()), true);
            Check.due(field + " is final", Modifier.isFinal(field.getModifiers()), true);
        }
        for (Class<?> inside : WarnWave.class.getDeclaredClasses()) {
            for (Method method : inside.getDeclaredMethods()) {
                Check.due(method + " has its own name", publicNames.contains(method.getName()), false);
            }
        }
    }

    private static void insideClasses() {
        Class<?>[] inside = WarnWave.class.getDeclaredClasses();
        Check.due("at most twelve classes", inside.length < 12, true);
        for (Class<?> one : inside) {
            Check.due(one + " is static", Modifier.isStatic(one.getModifiers()), true);
            Check.due(one + " is private", Modifier.isPrivate(one.getModifiers()), true);
            Check.due(one + " has few fields", one.getDeclaredFields().length <= 20, true);
            for (Method method : one.getDeclaredMethods()) {
                Check.due(method + " takes few parameters", method.getParameterCount() <= 7, true);
            }
        }
    }

    private static void words() throws IOException {
        String text = Files.readString(Path.of("src/main/java/WarnWave.java"));
        for (String word : NOT_IN_THE_LANGUAGE) {
            Check.due("the source holds " + word, text.contains(word), false);
        }
        for (int at = 0; at < text.length(); at++) {
            char sign = text.charAt(at);
            Check.due("sign at " + at, sign == '\n' || sign >= 32 && sign <= 126, true);
        }
    }
}
