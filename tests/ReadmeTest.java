import java.io.IOException;
import java.nio.file.Files;
import java.nio.file.Path;
import java.util.ArrayList;
import java.util.List;
import java.util.TreeSet;
import java.util.regex.Matcher;
import java.util.regex.Pattern;
import java.util.stream.Collectors;
import java.util.stream.Stream;

/** What README.md says is so; it names each test, and the tests name each promise. */
public final class ReadmeTest {
    private static final Path README = Path.of("README.md");
    private static final Path DOCUMENT = Path.of("../shared/DOC.md");
    private static final Path TESTS = Path.of("tests");
    private static final int PROMISES = 35;

    public static void main(String[] args) throws IOException {
        examples();
        numbers();
        exceptions();
        examplesStandInThisTest();
        namesOfTests();
        namesOfPromises();
        Check.finish("ReadmeTest");
    }

    /** The lines of the examples stand here as they stand there, but for their comments. */
    private static void examples() {
        BaulkHall hall = new BaulkHall();
        hall.rent(0, 3);
        Check.same("README: the renter", hall.renter(0), 3);
        hall.lend(2, 3);
        Check.same("README: the cue", hall.cueOf(3), 2);
        Check.same("README: the coins for it", hall.owes(3), 20);
        int frame = hall.begin(0, 3, 5, false);
        int points = hall.shoot(frame, 2, 20);
        Check.same("README: the points of the first shot", points, 0);
        Check.same("README: what it wore off", hall.wear(2), 6);
        hall.pass(25);
        int bill = hall.end(0);
        Check.same("README: the bill", bill, 18);
        int coinsBack = hall.takeBack(2);
        Check.same("README: the coins that come back", coinsBack, 19);
        int debt = hall.owes(3);
        Check.same("README: what is owed", debt, 19);
        int league = hall.begin(1, 0, 4, true);
        int foul = hall.shoot(league, 0, 1);
        Check.same("README: the foul", foul, -4);
        Check.same("README: the points of the customer 4", hall.points(league, true), 4);
        Check.same("README: the free ball", hall.isFree(league), true);
        hall.tear(1);
        Check.same("README: the frame waits", hall.state(league), 1);
        int player = hall.resume(league, 2);
        Check.same("README: whose turn it is", player, 4);
        int more = hall.shoot(league, 5, 30);
        Check.same("README: the points of the last shot", more, 5);
        Check.same("README: the ball 5 dropped", hall.cell(league, 5), -1);
    }

    /** First and last numbers of the page's table, by calls that take them, and the ones beside them. */
    private static void numbers() {
        taken("a customer", 0, 7, (h, n) -> h.owes(n), Check.INDEX);
        taken("a table", 0, 3, (h, n) -> h.renter(n), Check.INDEX);
        taken("a cue", 0, 5, (h, n) -> h.wear(n), Check.INDEX);
        taken("a frame", 0, 19, (h, n) -> h.state(n), Check.INDEX);
        taken("a ball", 0, 7, (h, n) -> h.cell(0, n), Check.INDEX);
        taken("a direction", 0, 7, (h, n) -> h.contacts(0, n, 1), Check.ARGUMENT);
        taken("a force", 1, 40, (h, n) -> h.contacts(0, 0, n), Check.ARGUMENT);
        taken("a power", 1, 40, (h, n) -> h.force(0, n), Check.ARGUMENT);
        taken("a price", 0, 50, (h, n) -> h.setPrice(n), Check.ARGUMENT);
        taken("minutes", 1, 200, (h, n) -> h.pass(n), Check.ARGUMENT);
    }

    private static void taken(String what, int first, int last, Check.CallWith call, Class<?> due) {
        BaulkHall hall = Halls.twentyWaiting();
        for (int number : new int[] {first - 1, first, last, last + 1}) {
            boolean isBeyond = number < first || number > last;
            Object got = Check.outcome(hall, h -> call.on(h, number));
            Check.same("README: " + what + " " + number, got instanceof String ? got : "taken",
                    isBeyond ? due.getName() : "taken");
        }
    }

    private static void exceptions() {
        BaulkHall hall = new BaulkHall();
        hall.tear(0);
        Check.same("README: no such table, and both the same", Check.outcome(hall, h -> h.begin(4, 1, 1, true)),
                Check.INDEX.getName());
        Check.same("README: both the same on a closed table", Check.outcome(hall, h -> h.begin(0, 1, 1, true)),
                Check.ARGUMENT.getName());
        Check.same("README: a closed table", Check.outcome(hall, h -> h.begin(0, 1, 2, true)), Check.STATE.getName());
        Check.same("README: nothing was changed", hall.frames(), 0);
    }

    private static String bare(String line) {
        return line.replaceAll("//.*", "").trim();
    }

    private static void examplesStandInThisTest() throws IOException {
        List<String> due = Files.readAllLines(README).stream().filter(line -> line.startsWith("    "))
                .map(ReadmeTest::bare).filter(line -> line.endsWith(";")).collect(Collectors.toList());
        List<String> here = new ArrayList<>();
        for (String line : Files.readAllLines(TESTS.resolve("ReadmeTest.java"))) {
            if (here.size() < due.size() && bare(line).equals(due.get(here.size()))) {
                here.add(bare(line));
            }
        }
        Check.same("the examples of README in their order", here, due);
        Check.same("that README has examples", due.size() > 10, true);
    }

    private static List<Path> sources() throws IOException {
        try (Stream<Path> files = Files.list(TESTS)) {
            return files.filter(file -> file.toString().endsWith(".java")).sorted().collect(Collectors.toList());
        }
    }

    private static void namesOfTests() throws IOException {
        String page = Files.readString(README);
        TreeSet<String> named = new TreeSet<>();
        Matcher name = Pattern.compile("`([A-Z]\\w*Test|Model|Check|Halls)`").matcher(page);
        while (name.find()) {
            named.add(name.group(1) + ".java");
        }
        TreeSet<String> due = new TreeSet<>();
        for (Path source : sources()) {
            due.add(source.getFileName().toString());
        }
        Check.same("the files under tests that README names", named, due);
    }

    /** Each promise of the document has its boundary cases, in a method of its own. */
    private static void namesOfPromises() throws IOException {
        StringBuilder all = new StringBuilder();
        for (Path source : sources()) {
            all.append(Files.readString(source));
        }
        Matcher title = Pattern.compile("(?m)^## Promise (\\d+): (.+)$").matcher(Files.readString(DOCUMENT));
        int promises = 0;
        while (title.find()) {
            promises++;
            String promise = "Check.promise(" + title.group(1) + ", \"" + title.group(2).toLowerCase().charAt(0)
                    + title.group(2).substring(1) + "\"";
            Check.same("that the tests have " + promise, all.indexOf(promise) >= 0, true);
        }
        Check.same("promises of the document", promises, PROMISES);
    }
}
