import java.io.IOException;
import java.lang.management.ManagementFactory;
import java.lang.reflect.Constructor;
import java.lang.reflect.Field;
import java.lang.reflect.Method;
import java.lang.reflect.Modifier;
import java.nio.file.Files;
import java.nio.file.Path;
import java.util.ArrayList;
import java.util.Arrays;
import java.util.List;
import java.util.Map;
import java.util.Set;
import java.util.TreeMap;
import java.util.TreeSet;
import java.util.regex.Matcher;
import java.util.regex.Pattern;
import java.util.stream.Collectors;

/** The face of the class as the document writes it, and rules of LANGUAGE.md that can be read off the source. */
public final class LanguageTest {
    private static final Path SOURCE = Path.of("src/main/java/BaulkHall.java");
    private static final Path DOCUMENT = Path.of("../shared/DOC.md");
    private static final int MOST_CLASSES = 12;
    private static final int MOST_FIELDS = 20;
    private static final int MOST_PARAMETERS = 7;
    private static final int MOST_LINES = 60;
    private static final int MOST_DEPTH = 8;
    /** A hall and all that a run of calls makes; the room holds some 7.3 million fields, of 4 bytes and more. */
    private static final long MOST_BYTES = 64 * 1024;
    private static final Set<String> WORDS_WITH_BRACKETS = Set.of("if", "for", "while", "switch", "catch", "return");
    private static final Set<String> LIBRARY = Set.of("Math", "IndexOutOfBoundsException", "IllegalArgumentException",
            "IllegalStateException");
    private static final Set<String> CALLS_OF_THE_LIBRARY = Set.of("max", "min", "clone");

    private record MethodText(String name, String body) {
    }

    public static void main(String[] args) throws IOException {
        face();
        for (Class<?> part : parts()) {
            members(part);
        }
        names();
        longRuns();
        room();
        sections();
        String bare = bareText(Files.readString(SOURCE));
        text(bare);
        library(bare);
        List<MethodText> methods = methodsOf(bare);
        shortness(methods);
        depths(methods);
        Check.finish("LanguageTest");
    }

    private static void face() throws IOException {
        Set<String> due = new TreeSet<>();
        Matcher line = Pattern.compile("^    (public .*);$", Pattern.MULTILINE).matcher(Files.readString(DOCUMENT));
        while (line.find()) {
            due.add(line.group(1).replaceAll("(int|boolean) \\w+(?=[,)])", "$1"));
        }
        Set<String> got = new TreeSet<>();
        for (Method method : BaulkHall.class.getDeclaredMethods()) {
            if (!Modifier.isPrivate(method.getModifiers())) {
                got.add(Modifier.toString(method.getModifiers()) + " " + method.getReturnType().getSimpleName() + " "
                        + method.getName() + listOf(method.getParameterTypes()) + thrown(method.getExceptionTypes()));
            }
        }
        for (Constructor<?> made : BaulkHall.class.getDeclaredConstructors()) {
            got.add(Modifier.toString(made.getModifiers()) + " BaulkHall" + listOf(made.getParameterTypes()));
        }
        Check.same("rule 1: the face", got, due);
        Check.same("that the document has a face", due.size(), 35);
        Check.same("rule 1: the class", Modifier.toString(BaulkHall.class.getModifiers()), "public final");
    }

    private static String listOf(Class<?>[] types) {
        return Arrays.stream(types).map(Class::getSimpleName).collect(Collectors.joining(", ", "(", ")"));
    }

    private static String thrown(Class<?>[] types) {
        return types.length == 0 ? "" : Arrays.stream(types).map(Class::getSimpleName)
                .collect(Collectors.joining(", ", " throws ", ""));
    }

    private static List<Class<?>> parts() {
        List<Class<?>> parts = new ArrayList<>(List.of(BaulkHall.class));
        parts.addAll(List.of(BaulkHall.class.getDeclaredClasses()));
        Check.same("rule 11: few classes", parts.size() <= MOST_CLASSES, true);
        return parts;
    }

    private static void members(Class<?> part) {
        int fields = 0;
        for (Field field : part.getDeclaredFields()) {
            int modifiers = field.getModifiers();
            String name = part.getSimpleName() + "." + field.getName();
            if (Modifier.isStatic(modifiers)) {
                Check.same("rule 5: " + name + " is final", Modifier.isFinal(modifiers), true);
            } else {
                fields++;
            }
            if (part == BaulkHall.class) {
                Check.same("rule 1: " + name + " is private", Modifier.isPrivate(modifiers), true);
            }
        }
        Check.same("rule 11: few fields in " + part.getSimpleName(), fields <= MOST_FIELDS, true);
        for (Method method : part.getDeclaredMethods()) {
            Check.same("rule 11: few parameters of " + method.getName(),
                    method.getParameterCount() <= MOST_PARAMETERS, true);
        }
        if (part != BaulkHall.class) {
            int modifiers = part.getModifiers();
            Check.same("rule 1: " + part.getSimpleName() + " is not open to all",
                    Modifier.isPublic(modifiers) || Modifier.isProtected(modifiers), false);
        }
    }

    private static void names() {
        Set<String> open = new TreeSet<>();
        for (Method method : BaulkHall.class.getDeclaredMethods()) {
            if (Modifier.isPublic(method.getModifiers())) {
                open.add(method.getName());
            }
        }
        for (Class<?> part : parts()) {
            for (Method method : part.getDeclaredMethods()) {
                if (!Modifier.isPublic(method.getModifiers())) {
                    Check.same("rule 1: " + method.getName() + " is a name of the face",
                            open.contains(method.getName()), false);
                }
            }
        }
    }

    /** More calls than the document asks for: what they answer is free, but the machine throws nothing in them. */
    private static void longRuns() {
        BaulkHall hall = new BaulkHall();
        hall.begin(0, 0, 1, true);
        Set<Object> thrown = new TreeSet<>();
        for (int i = 0; i < 2000; i++) {
            int n = i;
            List<Check.Call> calls = List.of(h -> h.rent(n % 4, n % 8), h -> h.lend(n % 6, n % 8),
                    h -> h.pass(n % 3 + 1), h -> h.tear(n % 2), h -> h.resume(0, 1 - n % 2), h -> h.mend(n % 2),
                    h -> h.takeBack(n % 6), h -> h.end(n % 4), h -> h.shoot(0, n % 8, n % 40 + 1), h -> h.owes(n % 8),
                    h -> h.begin(2, n % 8, (n + 1) % 8, true), h -> h.tear(2), h -> h.mend(2));
            for (Check.Call call : calls) {
                Object got = Check.outcome(hall, call);
                if (got instanceof String) {
                    thrown.add(got);
                }
            }
        }
        for (int customer = 0; customer < 8; customer++) {
            int c = customer;
            Object owed = Check.outcome(hall, h -> h.owesAnew(c));
            Check.same("rule 7: owesAnew behind long runs", owed instanceof Integer, true);
        }
        Check.same("rule 7: what was thrown in long runs", thrown, Set.of(Check.STATE.getName()));
    }

    /** A run of 512 calls that make the most: rows are made with the hall and used again. */
    private static void room() {
        com.sun.management.ThreadMXBean threads = (com.sun.management.ThreadMXBean) ManagementFactory.getThreadMXBean();
        long before = threads.getThreadAllocatedBytes(Thread.currentThread().getId());
        BaulkHall hall = new BaulkHall();
        for (int i = 0; i < 20; i++) {
            hall.begin(0, 0, 1, true);
            hall.tear(0);
            hall.mend(0);
        }
        hall.resume(19, 0);
        for (int i = 0; i < 50; i++) {
            hall.rent(1, 2);
            hall.end(1);
            hall.lend(5, 3);
            hall.takeBack(5);
            hall.contacts(19, i % 8, 40);
            hall.contactsByPairs(19, i % 8, 40);
            hall.shoot(19, 4, 40);
            hall.owesAnew(2);
            hall.rank(2);
        }
        long made = threads.getThreadAllocatedBytes(Thread.currentThread().getId()) - before;
        Check.same("room: the bytes that a run makes, " + made + ", are few", made <= MOST_BYTES, true);
        Check.same("that they were counted", made > 0, true);
    }

    /** What "the interface says" ahead of its calls, as the document tells it. */
    private static void sections() throws IOException {
        List<String> due = new ArrayList<>();
        Matcher told = Pattern.compile("(?m)^Ahead of the calls? (.+) the interface says: (---- .+)\\.$")
                .matcher(Files.readString(DOCUMENT));
        while (told.find()) {
            due.add(told.group(2));
            due.addAll(List.of(told.group(1).replace("`", "").split(", ")));
        }
        List<String> got = new ArrayList<>();
        Matcher said = Pattern.compile("(?m)^    (?:// (---- .+)|public \\w+ (\\w+)\\(.*)$")
                .matcher(Files.readString(SOURCE));
        while (said.find() && got.size() < due.size()) {
            got.add(said.group(1) == null ? said.group(2) : said.group(1));
        }
        Check.same("the sections of the face", got, due);
        Check.same("that the document has sections", due.size(), 40);
    }

    /** The source without its comments, and with empty texts. */
    private static String bareText(String source) {
        return source.replaceAll("(?s)/\\*.*?\\*/", "").replaceAll("//[^\n]*", "").replaceAll("\"[^\"\n]*\"", "\"\"");
    }

    private static void text(String bare) {
        String[] forbidden = {"\\bpackage\\b", "\\bimport\\b", "->", "::", "\\bassert\\b", "\\bsynchronized\\b",
            "\\btry\\b", "\\bcatch\\b", "\\bfinally\\b", "\\bstatic\\s*\\{", "@", "\"\\s*\\+", "\\+\\s*\"",
            "Exact\\b", "\\bSystem\\.(?!arraycopy)", "\\bvar\\b", "\\bObject\\b", "\\blong\\b", "\\bdouble\\b",
            "\\bfloat\\b", "\\bthrow\\s+(?!new\\s)", "\\bequals\\b", "\\bhashCode\\b", "\\btoString\\b",
            "\\bextends\\s+\\w*Exception\\b", "\\bwhile\\s*\\(true\\)", "for\\s*\\(\\s*;"};
        for (String pattern : forbidden) {
            Check.same("the source has " + pattern, Pattern.compile(pattern).matcher(bare).find(), false);
        }
        Check.same("rule 5: only signs of ASCII", bare.chars().allMatch(c -> c < 128), true);
    }

    /** All names that begin like a class's are of the class itself, or of the part of the library that is used. */
    private static void library(String bare) {
        Set<String> own = new TreeSet<>();
        for (Class<?> part : parts()) {
            own.add(part.getSimpleName());
        }
        Set<String> foreign = namesIn(bare, "\\b([A-Z]\\w*[a-z]\\w*)\\b");
        foreign.removeAll(own);
        Check.same("rule 4: names of the library", foreign, new TreeSet<>(LIBRARY));
        Set<String> called = namesIn(bare, "\\b(\\w+)\\(");
        called.removeAll(WORDS_WITH_BRACKETS);
        called.removeAll(own);
        called.removeAll(LIBRARY);
        for (MethodText method : methodsOf(bare)) {
            called.remove(method.name);
        }
        called.removeAll(namesIn(bare, "\\babstract \\w+ (\\w+)\\("));
        Check.same("rule 4: calls of the library", called, new TreeSet<>(CALLS_OF_THE_LIBRARY));
    }

    private static Set<String> namesIn(String text, String pattern) {
        Set<String> names = new TreeSet<>();
        Matcher name = Pattern.compile(pattern).matcher(text);
        while (name.find()) {
            names.add(name.group(1));
        }
        return names;
    }

    private static List<MethodText> methodsOf(String bare) {
        List<MethodText> methods = new ArrayList<>();
        Matcher head = Pattern.compile("\\b(\\w+)\\(([^()]*)\\)\\s*(throws [\\w, ]+)?\\{").matcher(bare);
        while (head.find()) {
            if (!WORDS_WITH_BRACKETS.contains(head.group(1))) {
                methods.add(new MethodText(head.group(1), bare.substring(head.end(), endOf(bare, head.end()))));
            }
        }
        return methods;
    }

    /** Where the bracket closes that was opened ahead of a place. */
    private static int endOf(String bare, int start) {
        int open = 1;
        int at = start;
        while (open > 0) {
            open += bare.charAt(at) == '{' ? 1 : bare.charAt(at) == '}' ? -1 : 0;
            at++;
        }
        return at - 1;
    }

    private static void shortness(List<MethodText> methods) {
        int found = 0;
        for (Class<?> part : parts()) {
            for (Method method : part.getDeclaredMethods()) {
                found += method.isSynthetic() || Modifier.isAbstract(method.getModifiers()) ? 0 : 1;
            }
        }
        long made = methods.stream().filter(m -> Character.isLowerCase(m.name.charAt(0))).count();
        Check.same("that all methods were found in the text", (int) made, found);
        for (MethodText method : methods) {
            Check.same("rule 11: " + method.name + " is short", method.body.lines().count() <= MOST_LINES, true);
        }
    }

    /** Methods of the same name count as one here, so that depths are told too great rather than too small. */
    private static void depths(List<MethodText> methods) {
        Map<String, Set<String>> calls = new TreeMap<>();
        for (MethodText method : methods) {
            calls.computeIfAbsent(method.name, name -> new TreeSet<>())
                    .addAll(namesIn(method.body, "\\b(\\w+)\\("));
        }
        for (String name : calls.keySet()) {
            Check.same("rule 11: " + name + " calls few levels deep", depth(calls, name, 1) <= MOST_DEPTH, true);
        }
    }

    private static int depth(Map<String, Set<String>> calls, String name, int level) {
        int deepest = level;
        for (String called : calls.getOrDefault(name, Set.of())) {
            if (calls.containsKey(called) && level <= MOST_DEPTH) {
                deepest = Math.max(deepest, depth(calls, called, level + 1));
            }
        }
        return deepest;
    }
}
