import java.util.ArrayList;
import java.util.List;
import java.util.function.Supplier;

/** What the project's tests share: they count wrong answers here, and end by it. */
final class Check {
    interface Call {
        Object on(BaulkHall hall);
    }

    interface CallWith {
        Object on(BaulkHall hall, int number);
    }

    static final Class<? extends Exception> INDEX = IndexOutOfBoundsException.class;
    static final Class<? extends Exception> ARGUMENT = IllegalArgumentException.class;
    static final Class<? extends Exception> STATE = IllegalStateException.class;

    private static int wrong = 0;
    private static int checked = 0;

    private Check() {
    }

    static void same(String what, Object got, Object due) {
        checked++;
        if (!due.equals(got)) {
            wrong++;
            System.out.println(what + " answered " + got + ", due is " + due);
        }
    }

    /** Runs the tests of one promise, and tells how many of their answers are as due. */
    static void promise(int number, String name, Runnable tests) {
        int checkedBefore = checked;
        int wrongBefore = wrong;
        tests.run();
        int made = checked - checkedBefore;
        System.out.println("promise " + number + ", " + name + ": " + (made - (wrong - wrongBefore)) + " of " + made);
        same("that promise " + number + " has tests", made > 0, true);
    }

    /** The call throws just this exception, and then the object answers as one on which it was not made. */
    static void refuses(String what, Supplier<BaulkHall> made, Call call, Class<? extends Exception> due) {
        BaulkHall hall = made.get();
        BaulkHall other = made.get();
        same(what + " throws", outcome(hall, call), due.getName());
        same("behind " + what + " the object", answersOf(hall), answersOf(other));
        same("long behind " + what + " the object", aftermathOf(hall), aftermathOf(other));
    }

    /** The numbers beside a range are refused, and the farthest ones. */
    static void refusesBeyond(String what, Supplier<BaulkHall> made, int first, int last, CallWith call,
            Class<? extends Exception> due) {
        for (int number : new int[] {first - 1, last + 1, Integer.MIN_VALUE, Integer.MAX_VALUE}) {
            refuses(what + " " + number, made, h -> call.on(h, number), due);
        }
    }

    /** The first and the last number of a range are taken, the numbers beside it are refused. */
    static void range(String what, Supplier<BaulkHall> made, int first, int last, CallWith call,
            Class<? extends Exception> due) {
        for (int number : new int[] {first, last}) {
            Object got = outcome(made.get(), h -> call.on(h, number));
            same(what + " " + number + " is taken", got instanceof String ? got : "taken", "taken");
        }
        refusesBeyond(what, made, first, last, call, due);
    }

    /** The answer of a call, or the name of what it threw. */
    static Object outcome(BaulkHall hall, Call call) {
        try {
            return call.on(hall);
        } catch (RuntimeException e) {
            return e.getClass().getName();
        }
    }

    /** All that a hall answers about itself; its price is 0 behind it. */
    static String answersOf(BaulkHall hall) {
        List<Object> answers = new ArrayList<>();
        answers.add(hall.minute());
        for (int table = 0; table < 4; table++) {
            answers.add(List.of(hall.isOpen(table), hall.renter(table), hall.clock(table), hall.frameOn(table)));
        }
        for (int customer = 0; customer < 8; customer++) {
            answers.add(List.of(hall.owes(customer), hall.owesAnew(customer), hall.wins(customer),
                    hall.rank(customer), hall.cueOf(customer), hall.force(customer, 40)));
        }
        for (int cue = 0; cue < 6; cue++) {
            answers.add(hall.wear(cue));
        }
        int frames = hall.frames();
        for (int frame = 0; frame < frames; frame++) {
            answers.add(frameOf(hall, frame));
        }
        answers.add(hall.setPrice(0));
        return answers.toString();
    }

    private static List<Object> frameOf(BaulkHall hall, int frame) {
        List<Object> answers = new ArrayList<>(List.of(hall.state(frame), hall.ballOn(frame), hall.isFree(frame),
                hall.turn(frame), hall.points(frame, false), hall.points(frame, true), hall.winner(frame)));
        answers.add(cellsOf(hall, frame));
        return answers;
    }

    static String cellsOf(BaulkHall hall, int frame) {
        List<Integer> cells = new ArrayList<>();
        for (int ball = 0; ball < 8; ball++) {
            cells.add(hall.cell(frame, ball));
        }
        return cells.toString();
    }

    /**
     * What calls that change much answer: they bring to light what a hall holds but does not tell at once.
     * Together with the questions ahead of it they are some 440 calls at most, and the hall is spent.
     */
    static String aftermathOf(BaulkHall hall) {
        List<Object> answers = new ArrayList<>();
        hall.setPrice(7);
        answers.add(outcome(hall, h -> h.pass(11)));
        for (int i = 0; i < 4; i++) {
            int table = i;
            answers.add(outcome(hall, h -> h.shoot(h.frameOn(table), 2, 30)));
            answers.add(outcome(hall, h -> h.tear(table)));
            answers.add(outcome(hall, h -> h.mend(table)));
            answers.add(outcome(hall, h -> h.begin(table, table, table + 1, true)));
        }
        for (int i = 0; i < 6; i++) {
            int cue = i;
            answers.add(outcome(hall, h -> h.takeBack(cue)));
            answers.add(outcome(hall, h -> h.tip(cue)));
        }
        for (int customer = 0; customer < 8; customer++) {
            answers.add(List.of(hall.owes(customer), hall.owesAnew(customer)));
        }
        answers.add(hall.frames());
        return answers.toString();
    }

    static void finish(String test) {
        System.out.println(test + ": " + (checked - wrong) + " of " + checked + " answers are as due");
        if (wrong != 0 || checked == 0) {
            System.exit(1);
        }
    }
}
