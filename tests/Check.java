import java.util.ArrayList;
import java.util.List;
import java.util.function.Supplier;

/** What the project's tests share: they count wrong answers here, and end by it. */
final class Check {
    interface Call {
        void on(BaulkHall hall);
    }

    interface Asked {
        Object on(BaulkHall hall);
    }

    static final Class<? extends Exception> INDEX = IndexOutOfBoundsException.class;
    static final Class<? extends Exception> ARGUMENT = IllegalArgumentException.class;
    static final Class<? extends Exception> STATE = IllegalStateException.class;

    private static int wrong = 0;
    private static int checked = 0;

    private Check() {
    }

    static void same(String what, Object got, Object due) {
        checked++;
        if (!due.equals(got)) {
            wrong++;
            System.out.println(what + " answered " + got + ", due is " + due);
        }
    }

    /** The call throws just this exception, and then the object answers as one on which it was not made. */
    static void refuses(String what, Supplier<BaulkHall> made, Call call, Class<? extends Exception> due) {
        BaulkHall hall = made.get();
        String thrown = "nothing";
        try {
            call.on(hall);
        } catch (RuntimeException e) {
            thrown = e.getClass().getName();
        }
        same(what + " throws", thrown, due.getName());
        same("behind " + what + " the object", answersOf(hall), answersOf(made.get()));
    }

    /** All that a hall answers about itself; the hall is not to be used any more behind it. */
    static String answersOf(BaulkHall hall) {
        List<Object> answers = new ArrayList<>();
        answers.add(hall.minute());
        for (int table = 0; table < 4; table++) {
            answers.add(List.of(hall.isOpen(table), hall.renter(table), hall.clock(table), hall.frameOn(table)));
        }
        for (int customer = 0; customer < 8; customer++) {
            answers.add(List.of(hall.owes(customer), hall.owesAnew(customer), hall.wins(customer),
                    hall.rank(customer), hall.cueOf(customer), hall.force(customer, 40)));
        }
        for (int cue = 0; cue < 6; cue++) {
            answers.add(hall.wear(cue));
        }
        for (int frame = 0; frame < hall.frames(); frame++) {
            answers.add(frameOf(hall, frame));
        }
        answers.add(hall.setPrice(0));
        return answers.toString();
    }

    private static List<Object> frameOf(BaulkHall hall, int frame) {
        List<Object> answers = new ArrayList<>(List.of(hall.state(frame), hall.ballOn(frame), hall.isFree(frame),
                hall.turn(frame), hall.points(frame, false), hall.points(frame, true), hall.winner(frame)));
        answers.add(cellsOf(hall, frame));
        return answers;
    }

    static String cellsOf(BaulkHall hall, int frame) {
        List<Integer> cells = new ArrayList<>();
        for (int ball = 0; ball < 8; ball++) {
            cells.add(hall.cell(frame, ball));
        }
        return cells.toString();
    }

    static void finish(String test) {
        System.out.println(test + ": " + (checked - wrong) + " of " + checked + " answers are as due");
        if (wrong != 0 || checked == 0) {
            System.exit(1);
        }
    }
}
