import java.io.IOException;
import java.lang.reflect.Constructor;
import java.lang.reflect.Field;
import java.lang.reflect.Method;
import java.lang.reflect.Modifier;
import java.nio.file.Files;
import java.nio.file.Path;
import java.util.ArrayList;
import java.util.Arrays;
import java.util.List;
import java.util.Set;
import java.util.TreeSet;
import java.util.regex.Matcher;
import java.util.regex.Pattern;
import java.util.stream.Collectors;

/** The face of the class as the document writes it, and rules of LANGUAGE.md that can be read off the source. */
public final class LanguageTest {
    private static final Path SOURCE = Path.of("src/main/java/BaulkHall.java");
    private static final Path DOCUMENT = Path.of("../shared/DOC.md");
    private static final int MOST_CLASSES = 12;
    private static final int MOST_FIELDS = 20;
    private static final int MOST_PARAMETERS = 7;
    private static final int MOST_LINES = 60;

    public static void main(String[] args) throws IOException {
        face();
        for (Class<?> part : parts()) {
            members(part);
        }
        names();
        longRuns();
        text(bareText(Files.readString(SOURCE)));
        Check.finish("LanguageTest");
    }

    private static void face() throws IOException {
        Set<String> due = new TreeSet<>();
        Matcher line = Pattern.compile("^    (public .*);$", Pattern.MULTILINE).matcher(Files.readString(DOCUMENT));
        while (line.find()) {
            due.add(line.group(1).replaceAll("(int|boolean) \\w+(?=[,)])", "$1"));
        }
        Set<String> got = new TreeSet<>();
        for (Method method : BaulkHall.class.getDeclaredMethods()) {
            if (!Modifier.isPrivate(method.getModifiers())) {
                got.add(Modifier.toString(method.getModifiers()) + " " + method.getReturnType().getSimpleName() + " "
                        + method.getName() + listOf(method.getParameterTypes()) + thrown(method.getExceptionTypes()));
            }
        }
        for (Constructor<?> made : BaulkHall.class.getDeclaredConstructors()) {
            got.add(Modifier.toString(made.getModifiers()) + " BaulkHall" + listOf(made.getParameterTypes()));
        }
        Check.same("rule 1: the face", got, due);
        Check.same("that the document has a face", due.size(), 35);
        Check.same("rule 1: the class", Modifier.toString(BaulkHall.class.getModifiers()), "public final");
    }

    private static String listOf(Class<?>[] types) {
        return Arrays.stream(types).map(Class::getSimpleName).collect(Collectors.joining(", ", "(", ")"));
    }

    private static String thrown(Class<?>[] types) {
        return types.length == 0 ? "" : Arrays.stream(types).map(Class::getSimpleName)
                .collect(Collectors.joining(", ", " throws ", ""));
    }

    private static List<Class<?>> parts() {
        List<Class<?>> parts = new ArrayList<>(List.of(BaulkHall.class));
        parts.addAll(List.of(BaulkHall.class.getDeclaredClasses()));
        Check.same("rule 11: few classes", parts.size() <= MOST_CLASSES, true);
        return parts;
    }

    private static void members(Class<?> part) {
        int fields = 0;
        for (Field field : part.getDeclaredFields()) {
            int modifiers = field.getModifiers();
            String name = part.getSimpleName() + "." + field.getName();
            if (Modifier.isStatic(modifiers)) {
                Check.same("rule 5: " + name + " is final", Modifier.isFinal(modifiers), true);
            } else {
                fields++;
            }
            if (part == BaulkHall.class) {
                Check.same("rule 1: " + name + " is private", Modifier.isPrivate(modifiers), true);
            }
        }
        Check.same("rule 11: few fields in " + part.getSimpleName(), fields <= MOST_FIELDS, true);
        for (Method method : part.getDeclaredMethods()) {
            Check.same("rule 11: few parameters of " + method.getName(),
                    method.getParameterCount() <= MOST_PARAMETERS, true);
        }
        if (part != BaulkHall.class) {
            int modifiers = part.getModifiers();
            Check.same("rule 1: " + part.getSimpleName() + " is not open to all",
                    Modifier.isPublic(modifiers) || Modifier.isProtected(modifiers), false);
        }
    }

    private static void names() {
        Set<String> open = new TreeSet<>();
        for (Method method : BaulkHall.class.getDeclaredMethods()) {
            if (Modifier.isPublic(method.getModifiers())) {
                open.add(method.getName());
            }
        }
        for (Class<?> part : parts()) {
            for (Method method : part.getDeclaredMethods()) {
                if (!Modifier.isPublic(method.getModifiers())) {
                    Check.same("rule 1: " + method.getName() + " is a name of the face",
                            open.contains(method.getName()), false);
                }
            }
        }
    }

    /** More calls than the document asks for: what they answer is free, but the machine throws nothing in them. */
    private static void longRuns() {
        BaulkHall hall = new BaulkHall();
        hall.begin(0, 0, 1, true);
        Set<Object> thrown = new TreeSet<>();
        for (int i = 0; i < 2000; i++) {
            int n = i;
            List<Check.Call> calls = List.of(h -> h.rent(n % 4, n % 8), h -> h.lend(n % 6, n % 8),
                    h -> h.pass(n % 3 + 1), h -> h.tear(n % 2), h -> h.resume(0, 1 - n % 2), h -> h.mend(n % 2),
                    h -> h.takeBack(n % 6), h -> h.end(n % 4), h -> h.shoot(0, n % 8, n % 40 + 1), h -> h.owes(n % 8),
                    h -> h.begin(2, n % 8, (n + 1) % 8, true), h -> h.tear(2), h -> h.mend(2));
            for (Check.Call call : calls) {
                Object got = Check.outcome(hall, call);
                if (got instanceof String) {
                    thrown.add(got);
                }
            }
        }
        for (int customer = 0; customer < 8; customer++) {
            int c = customer;
            Object owed = Check.outcome(hall, h -> h.owesAnew(c));
            Check.same("rule 7: owesAnew behind long runs", owed instanceof Integer, true);
        }
        Check.same("rule 7: what was thrown in long runs", thrown, Set.of(Check.STATE.getName()));
    }

    /** The source without its comments, and with empty texts. */
    private static String bareText(String source) {
        return source.replaceAll("(?s)/\\*.*?\\*/", "").replaceAll("//[^\n]*", "").replaceAll("\"[^\"\n]*\"", "\"\"");
    }

    private static void text(String bare) {
        String[] forbidden = {"\\bpackage\\b", "\\bimport\\b", "->", "::", "\\bassert\\b", "\\bsynchronized\\b",
            "\\btry\\b", "\\bcatch\\b", "\\bfinally\\b", "\\bstatic\\s*\\{", "@", "\"\\s*\\+", "\\+\\s*\"",
            "Exact\\b", "\\bSystem\\.(?!arraycopy)", "\\bvar\\b", "\\bObject\\b", "\\blong\\b", "\\bdouble\\b",
            "\\bfloat\\b", "\\bthrow\\s+(?!new\\s)", "\\bequals\\b", "\\bhashCode\\b", "\\btoString\\b",
            "\\bextends\\s+\\w*Exception\\b", "\\bwhile\\s*\\(true\\)", "for\\s*\\(\\s*;"};
        for (String pattern : forbidden) {
            Check.same("the source has " + pattern, Pattern.compile(pattern).matcher(bare).find(), false);
        }
        Check.same("rule 5: only signs of ASCII", bare.chars().allMatch(c -> c < 128), true);
        Matcher method = Pattern.compile("(?m)^( +)(?!class|if|for|while|switch)[^=\n]*\\([^\n]*\\{\n((?s).*?)^\\1\\}")
                .matcher(bare);
        int methods = 0;
        while (method.find()) {
            methods++;
            Check.same("rule 11: short methods", method.group(2).lines().count() <= MOST_LINES, true);
        }
        Check.same("that methods were found", methods > 35, true);
    }
}
