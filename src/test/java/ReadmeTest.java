import java.lang.reflect.Method;
import java.lang.reflect.Modifier;
import java.nio.file.Files;
import java.nio.file.Path;
import java.util.Set;
import java.util.TreeSet;
import java.util.regex.Matcher;
import java.util.regex.Pattern;

/** README.md tells of each public method, and of no other. */
final class ReadmeTest {
    private static final Pattern CALL = Pattern.compile("(?m)^\\| `((?:int|boolean) \\w+\\([^)]*\\))` \\|");

    private ReadmeTest() {
    }

    static void run(Check check, String readme) throws Exception {
        check.promise("README.md");
        Set<String> told = new TreeSet<>();
        Matcher calls = CALL.matcher(Files.readString(Path.of(readme)));
        while (calls.find()) {
            check.yes("once: " + calls.group(1), told.add(withoutNames(calls.group(1))));
        }
        Set<String> open = new TreeSet<>();
        for (Method method : FoundFirst.class.getDeclaredMethods()) {
            if (Modifier.isPublic(method.getModifiers())) {
                open.add(LanguageTest.textOf(method));
            }
        }
        check.yes("the calls are the public ones: " + told, told.equals(open));
    }

    private static String withoutNames(String call) {
        return call.replaceAll("(int|boolean) \\w+(?=[,)])", "$1");
    }
}
