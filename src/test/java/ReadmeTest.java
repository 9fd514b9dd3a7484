import java.io.IOException;
import java.lang.reflect.Method;
import java.lang.reflect.Modifier;
import java.nio.file.Files;
import java.nio.file.Path;

/** The example in README.md: each of its lines answers what is said beside it, and it names every call. */
final class ReadmeTest {
    private static String readme;

    public static void main(String[] args) throws IOException {
        readme = Files.readString(Path.of("README.md"));
        example();
        namesEveryCall();
        Check.end("ReadmeTest");
    }

    private static void example() {
        stands("WarnWave land = new WarnWave();");
        WarnWave land = new WarnWave();
        answers("land.until(10);", land.until(10), 600);
        stands("int group = land.group(0, 9, 0, false, true);");
        int group = land.group(0, 9, 0, false, true);
        answers("land.shelter(5, 20);", land.shelter(5, 20), 0);
        stands("int warning = land.alert(1, 1, 7);");
        int warning = land.alert(1, 1, 7);
        answers("land.approve(warning, 0);", land.approve(warning, 0), 1);
        answers("land.approve(warning, 1);", land.approve(warning, 1), 0);
        answers("land.send(warning);", land.send(warning), 9);
        answers("land.safeIn(group, 10);", land.safeIn(group, 10), 3);
        answers("land.pass(3);", land.pass(3), 1);
        answers("land.heard(group, warning, 3);", land.heard(group, warning, 3), 12);
        answers("land.ofGroup(group, 5);", land.ofGroup(group, 5), 0);
    }

    private static void stands(String line) {
        Check.due("README.md holds " + line, readme.contains("\n" + line), true);
    }

    private static void answers(String line, int got, int want) {
        stands(line);
        Check.due("README.md: " + line, got, want);
        int from = readme.indexOf("\n" + line) + 1;
        int to = Math.max(from, readme.indexOf('\n', from));
        String whole = readme.substring(from, to);
        Check.due("README.md says so: " + whole, whole.contains("// " + want + ": "), true);
    }

    private static void namesEveryCall() {
        for (Method method : WarnWave.class.getDeclaredMethods()) {
            if (Modifier.isPublic(method.getModifiers())) {
                Check.due("README.md names " + method.getName(), readme.contains("`" + method.getName() + "`"), true);
            }
        }
    }
}
