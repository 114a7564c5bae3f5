import java.util.List;
import java.util.function.Supplier;

/**
 * "nothing from here on changes anything", which the face says ahead of `minute`: each question of the promises 14
 * to 35 leaves a hall as it was, and answers the same when it is asked again.
 */
public final class QuestionsTest {
    /** A question about a thing by its number, 0 or a wrong one among them. */
    private record Question(int promise, String name, int last, Check.CallWith call) {
    }

    private static final List<Question> QUESTIONS = List.of(
            new Question(14, "minute", 0, (h, n) -> h.minute()),
            new Question(15, "isOpen", 3, (h, table) -> h.isOpen(table)),
            new Question(16, "renter", 3, (h, table) -> h.renter(table)),
            new Question(17, "clock", 3, (h, table) -> h.clock(table)),
            new Question(18, "frameOn", 3, (h, table) -> h.frameOn(table)),
            new Question(19, "owes", 7, (h, customer) -> h.owes(customer)),
            new Question(20, "owesAnew", 7, (h, customer) -> h.owesAnew(customer)),
            new Question(21, "frames", 0, (h, n) -> h.frames()),
            new Question(22, "state", 4, (h, frame) -> h.state(frame)),
            new Question(23, "cell", 7, (h, ball) -> h.cell(2, ball)),
            new Question(24, "ballOn", 4, (h, frame) -> h.ballOn(frame)),
            new Question(25, "isFree", 4, (h, frame) -> h.isFree(frame)),
            new Question(26, "turn", 4, (h, frame) -> h.turn(frame)),
            new Question(27, "points", 4, (h, frame) -> h.points(frame, frame % 2 == 0)),
            new Question(28, "winner", 4, (h, frame) -> h.winner(frame)),
            new Question(29, "contacts", 4, (h, frame) -> h.contacts(frame, 2, 40)),
            new Question(29, "contacts", 7, (h, direction) -> h.contacts(3, direction, 37)),
            new Question(30, "contactsByPairs", 4, (h, frame) -> h.contactsByPairs(frame, 2, 40)),
            new Question(30, "contactsByPairs", 7, (h, direction) -> h.contactsByPairs(3, direction, 37)),
            new Question(31, "wins", 7, (h, customer) -> h.wins(customer)),
            new Question(32, "rank", 7, (h, customer) -> h.rank(customer)),
            new Question(33, "wear", 5, (h, cue) -> h.wear(cue)),
            new Question(34, "cueOf", 7, (h, customer) -> h.cueOf(customer)),
            new Question(35, "force", 7, (h, customer) -> h.force(customer, 40)));

    public static void main(String[] args) {
        for (Question question : QUESTIONS) {
            changesNothing(question, BaulkHall::new);
            changesNothing(question, Halls::busy);
        }
        shotsBehindContacts();
        Check.finish("QuestionsTest");
    }

    private static void changesNothing(Question question, Supplier<BaulkHall> made) {
        BaulkHall asked = made.get();
        BaulkHall other = made.get();
        String what = question.promise + ": " + question.name;
        for (int number = -1; number <= question.last + 1; number++) {
            int n = number;
            Object first = Check.outcome(asked, h -> question.call.on(h, n));
            Object second = Check.outcome(asked, h -> question.call.on(h, n));
            Check.same(what + " for " + n + ", asked again,", second, first);
        }
        Check.same("behind " + what + " the object", Check.answersOf(asked), Check.answersOf(other));
        Check.same("long behind " + what + " the object", Check.aftermathOf(asked), Check.aftermathOf(other));
    }

    /** What a question about contacts leaves behind is no part of the shot that comes next. */
    private static void shotsBehindContacts() {
        for (int direction = 0; direction < 8; direction++) {
            BaulkHall asked = Halls.bare("2,40 5,40");
            BaulkHall other = Halls.bare("2,40 5,40");
            asked.contacts(0, direction, 40);
            asked.contactsByPairs(0, direction, 40);
            Check.same("10: a shot behind contacts", asked.shoot(0, 3, 31), other.shoot(0, 3, 31));
            Check.same("23: the cells behind it", Check.cellsOf(asked, 0), Check.cellsOf(other, 0));
        }
    }
}
