import java.lang.reflect.Constructor;
import java.lang.reflect.Field;
import java.lang.reflect.Method;
import java.lang.reflect.Modifier;
import java.nio.file.Files;
import java.nio.file.Path;
import java.util.Arrays;
import java.util.List;
import java.util.Set;
import java.util.TreeSet;
import java.util.regex.Matcher;
import java.util.regex.Pattern;

/** What of the face and of LANGUAGE.md can be seen from the class file and from the source's words. */
final class LanguageTest {
    private static final String INT = "int";
    private static final List<String> FACE = List.of(
            "int page(int, int, int)", "int word(int, int, int)", "boolean renew(int, int, int)",
            "int query(int, boolean)", "boolean hold(int, boolean)", "boolean weight(int, int)",
            "boolean rule(int, int, int)", "boolean grade(int, int, int)", "int finds(int)",
            "int place(int, int)", "int why(int, int, int)", "int worth(int)", "int all(boolean)",
            "int tune(int, int)", "int step()", "int keep()", "boolean back(int)",
            "int lost(int, int, int)", "int now(int)", "int mix(int, int, int, int)",
            "int mixed(int, int)", "int click(int)", "int trial(int)", "boolean sure(int, int)",
            "boolean image(int)", "boolean again(int)");
    private static final List<String> FORBIDDEN = List.of(
            "throw", "try", "catch", "synchronized", "assert", "Object", "System\\.out",
            "System\\.(?!arraycopy)\\w+", "\\w+Exact", "->", "::", "Thread", "Random", "HashMap",
            "static \\{");

    private LanguageTest() {
    }

    static void run(Check check, String source) throws Exception {
        face(check);
        classesInside(check);
        words(check, Files.readString(Path.of(source)));
    }

    private static void face(Check check) {
        check.promise("the public face");
        check.yes("the class is public and final", Modifier.isPublic(FoundFirst.class.getModifiers())
                && Modifier.isFinal(FoundFirst.class.getModifiers()));
        Set<String> open = new TreeSet<>();
        Set<String> openNames = new TreeSet<>();
        for (Method method : FoundFirst.class.getDeclaredMethods()) {
            if (!Modifier.isPrivate(method.getModifiers())) {
                open.add(textOf(method));
                openNames.add(method.getName());
                check.yes(method + " is public and no more", method.getModifiers() == Modifier.PUBLIC);
            }
        }
        check.yes("methods are the document's: " + open, open.equals(new TreeSet<>(FACE)));
        for (Method method : FoundFirst.class.getDeclaredMethods()) {
            if (Modifier.isPrivate(method.getModifiers())) {
                check.no("a private method's name is public: " + method, openNames.contains(method.getName()));
            }
        }
        for (Field field : FoundFirst.class.getDeclaredFields()) {
            check.yes("field " + field, Modifier.isPrivate(field.getModifiers()) || field.getName().equals("NONE"));
        }
        Constructor<?>[] constructors = FoundFirst.class.getDeclaredConstructors();
        check.yes("one public constructor without arguments", constructors.length == 1
                && Modifier.isPublic(constructors[0].getModifiers()) && constructors[0].getParameterCount() == 0);
    }

    static String textOf(Method method) {
        String parameters = Arrays.toString(method.getParameterTypes());
        return method.getReturnType().getName() + " " + method.getName() + "("
                + parameters.substring(1, parameters.length() - 1) + ")";
    }

    private static void classesInside(Check check) {
        check.promise("LANGUAGE.md");
        Class<?>[] inside = FoundFirst.class.getDeclaredClasses();
        check.yes("at most some twelve classes", inside.length < 12);
        for (Class<?> one : inside) {
            check.yes(one + " is static", Modifier.isStatic(one.getModifiers()));
            check.no(one + " is open", Modifier.isPublic(one.getModifiers())
                    || Modifier.isProtected(one.getModifiers()));
            for (Field field : one.getDeclaredFields()) {
                int modifiers = field.getModifiers();
                check.yes(field + " is no static state", !Modifier.isStatic(modifiers));
            }
        }
        for (Field field : FoundFirst.class.getDeclaredFields()) {
            if (Modifier.isStatic(field.getModifiers())) {
                check.yes(field + " is a constant", Modifier.isFinal(field.getModifiers())
                        && field.getType().getName().equals(INT));
            }
        }
    }

    private static void words(Check check, String source) {
        String code = source.replaceAll("(?s)/\\*.*?\\*/", "").replaceAll("//[^\\n]*", "");
        for (String forbidden : FORBIDDEN) {
            String edge = Character.isLetter(forbidden.charAt(0)) ? "\\b" : "";
            Matcher matcher = Pattern.compile(edge + forbidden + edge).matcher(code);
            check.no("the source has " + forbidden, matcher.find());
        }
        Matcher imports = Pattern.compile("(?m)^import (.*);$").matcher(code);
        while (imports.find()) {
            check.yes("import " + imports.group(1), imports.group(1).equals("java.util.Arrays"));
        }
        check.no("a package line", Pattern.compile("(?m)^package ").matcher(code).find());
    }
}
