import java.util.List;
import java.util.function.Supplier;

/** The boundary cases of the promises 8, 9, 21, 22, 24, 26 to 28, 31 and 32: frames from beginning to end. */
public final class FramesEdgesTest {
    private static final Supplier<BaulkHall> FRESH = BaulkHall::new;
    private static final Supplier<BaulkHall> BUSY = Halls::busy;
    private static final Supplier<BaulkHall> TWENTY = Halls::twentyWaiting;
    private static final Supplier<BaulkHall> ALL_RENTED = Halls::allRented;
    private static final Supplier<BaulkHall> ALL_CLOSED = Halls::allClosed;

    public static void main(String[] args) {
        Check.promise(8, "begin", FramesEdgesTest::promise08Begin);
        Check.promise(9, "resume", FramesEdgesTest::promise09Resume);
        Check.promise(21, "frames", FramesEdgesTest::promise21Frames);
        Check.promise(22, "state", FramesEdgesTest::promise22State);
        Check.promise(24, "ballOn", FramesEdgesTest::promise24BallOn);
        Check.promise(26, "turn", FramesEdgesTest::promise26Turn);
        Check.promise(27, "points", FramesEdgesTest::promise27Points);
        Check.promise(28, "winner", FramesEdgesTest::promise28Winner);
        Check.promise(31, "wins", FramesEdgesTest::promise31Wins);
        Check.promise(32, "rank", FramesEdgesTest::promise32Rank);
        Check.finish("FramesEdgesTest");
    }

    /** A question about a frame takes each frame that was begun, and no other number. */
    static void frameOf(String what, Check.CallWith question) {
        Check.refusesBeyond(what + " of none", FRESH, 0, -1, question, Check.INDEX);
        Check.range(what + " of one", () -> Halls.bare(""), 0, 0, question, Check.INDEX);
        Check.range(what + " of a busy hall", BUSY, 0, 4, question, Check.INDEX);
        Check.range(what + " of twenty", TWENTY, 0, 19, question, Check.INDEX);
    }

    private static void promise08Begin() {
        Check.range("8: the table", FRESH, 0, 3, (h, table) -> h.begin(table, 5, 6, true), Check.INDEX);
        Check.range("8: the first player", FRESH, 0, 7, (h, c) -> h.begin(1, c, 4, true), Check.INDEX);
        Check.range("8: the second player", FRESH, 0, 7, (h, c) -> h.begin(1, 4, c, true), Check.INDEX);
        Check.range("8: the rented table", ALL_RENTED, 0, 3, (h, t) -> h.begin(t, t, 7, false), Check.INDEX);
        Check.range("8: the rented table of the second", ALL_RENTED, 0, 3,
                (h, table) -> h.begin(table, 7, table, false), Check.INDEX);
        Check.refusesBeyond("8: the table in a busy hall", BUSY, 0, 3, (h, t) -> h.begin(t, 5, 6, true), Check.INDEX);
        Check.refusesBeyond("8: the first in a busy hall", BUSY, 0, 7, (h, c) -> h.begin(3, c, 6, true), Check.INDEX);
        Check.refusesBeyond("8: the second in a busy hall", BUSY, 0, 7, (h, c) -> h.begin(3, 6, c, true), Check.INDEX);
        for (int i = 0; i < 8; i++) {
            int customer = i;
            Check.refuses("8: both are " + customer, FRESH, h -> h.begin(0, customer, customer, true), Check.ARGUMENT);
        }
        beginInTheOrderOfExceptions();
        beginRefusedByTheState();
        beginTheTwentieth();
        BaulkHall hall = Halls.busy();
        Check.same("8: players who have frames elsewhere", hall.begin(3, 6, 4, true), 5);
        BaulkHall again = Halls.atMinute(10000);
        Check.same("8: at the last minute", again.begin(0, 0, 7, false), 0);
        Halls.play(again, 0, Halls.WON_BY_FIRST);
        Check.same("8: where a frame is over", again.begin(0, 7, 0, false), 1);
        again.end(0);
        Check.same("8: where a frame waits", again.begin(0, 1, 2, true), 2);
    }

    private static void beginInTheOrderOfExceptions() {
        Check.refuses("8: no table, and both the same", BUSY, h -> h.begin(4, 5, 5, true), Check.INDEX);
        Check.refuses("8: no table, and not rented", BUSY, h -> h.begin(-1, 5, 6, false), Check.INDEX);
        Check.refuses("8: both the same, who is none", BUSY, h -> h.begin(3, 8, 8, true), Check.INDEX);
        Check.refuses("8: both the same, who is none", BUSY, h -> h.begin(3, -1, -1, true), Check.INDEX);
        Check.refuses("8: no first player on a closed table", BUSY, h -> h.begin(1, 8, 6, true), Check.INDEX);
        Check.refuses("8: no second player on a table with a frame", BUSY, h -> h.begin(0, 6, 8, true), Check.INDEX);
        Check.refuses("8: the same on a closed table", BUSY, h -> h.begin(1, 6, 6, true), Check.ARGUMENT);
        Check.refuses("8: the same on a table with a frame", BUSY, h -> h.begin(0, 6, 6, true), Check.ARGUMENT);
        Check.refuses("8: the same on a table that is not rented", BUSY, h -> h.begin(3, 6, 6, false), Check.ARGUMENT);
        Check.refuses("8: no table for a 21st frame", TWENTY, h -> h.begin(4, 0, 1, true), Check.INDEX);
        Check.refuses("8: no first player for a 21st frame", TWENTY, h -> h.begin(0, 8, 1, true), Check.INDEX);
        Check.refuses("8: no second player for a 21st frame", TWENTY, h -> h.begin(0, 1, -1, true), Check.INDEX);
        Check.refuses("8: a 21st frame of one player", TWENTY, h -> h.begin(0, 1, 1, true), Check.ARGUMENT);
    }

    private static void beginRefusedByTheState() {
        Check.refuses("8: closed, of the league", BUSY, h -> h.begin(1, 5, 6, true), Check.STATE);
        Check.refuses("8: closed, not of the league", BUSY, h -> h.begin(1, 2, 4, false), Check.STATE);
        Check.refuses("8: with a frame of the league", BUSY, h -> h.begin(0, 5, 6, true), Check.STATE);
        Check.refuses("8: with a frame of the league, rented", BUSY, h -> h.begin(0, 2, 6, false), Check.STATE);
        Check.refuses("8: with another frame", BUSY, h -> h.begin(2, 5, 6, true), Check.STATE);
        Check.refuses("8: with another frame, rented", BUSY, h -> h.begin(2, 4, 5, false), Check.STATE);
        Check.refuses("8: rented by nobody", BUSY, h -> h.begin(3, 5, 6, false), Check.STATE);
        Check.refuses("8: both rent other ones", BUSY, h -> h.begin(3, 2, 4, false), Check.STATE);
        for (int i = 0; i < 4; i++) {
            int table = i;
            Check.refuses("8: all closed, " + table, ALL_CLOSED, h -> h.begin(table, 5, 6, true), Check.STATE);
            Check.refuses("8: rented by a third, " + table, ALL_RENTED,
                    h -> h.begin(table, (table + 1) % 4, 7, false), Check.STATE);
            Check.same("8: of the league, rented by a third, " + table,
                    Halls.allRented().begin(table, (table + 1) % 4, 7, true), 0);
        }
    }

    private static void beginTheTwentieth() {
        BaulkHall hall = new BaulkHall();
        for (int frame = 0; frame < 20; frame++) {
            Check.same("8: frame " + frame, hall.begin(3, 0, 1, true), frame);
            Check.same("21: frames with it", hall.frames(), frame + 1);
            hall.tear(3);
            hall.mend(3);
        }
        for (int i = 0; i < 4; i++) {
            int table = i;
            Check.refuses("8: a 21st frame on " + table, TWENTY, h -> h.begin(table, 0, 1, true), Check.STATE);
        }
        Check.same("8: a 21st frame when twenty are over", Check.outcome(wonBy(4, 20), h -> h.begin(0, 0, 1, true)),
                Check.STATE.getName());
        Supplier<BaulkHall> rented = () -> {
            BaulkHall twenty = Halls.twentyWaiting();
            twenty.rent(2, 3);
            return twenty;
        };
        Check.refuses("8: a 21st frame that is not of the league", rented, h -> h.begin(2, 3, 5, false), Check.STATE);
    }

    private static void promise09Resume() {
        Check.range("9: the frame of twenty", TWENTY, 0, 19, (h, frame) -> h.resume(frame, 2), Check.INDEX);
        Check.range("9: the table", TWENTY, 0, 3, (h, table) -> h.resume(7, table), Check.INDEX);
        Check.refusesBeyond("9: the frame of none", FRESH, 0, -1, (h, frame) -> h.resume(frame, 0), Check.INDEX);
        Check.refusesBeyond("9: the frame of a busy hall", BUSY, 0, 4, (h, f) -> h.resume(f, 3), Check.INDEX);
        Check.refusesBeyond("9: the table of a busy hall", BUSY, 0, 3, (h, t) -> h.resume(1, t), Check.INDEX);
        Check.refuses("9: no table for a frame that is over", BUSY, h -> h.resume(0, 4), Check.INDEX);
        Check.refuses("9: no table for a frame that is on one", BUSY, h -> h.resume(3, -1), Check.INDEX);
        Check.refuses("9: no frame for a closed table", BUSY, h -> h.resume(5, 1), Check.INDEX);
        Check.refuses("9: no frame for a table that has one", BUSY, h -> h.resume(-1, 0), Check.INDEX);
        Check.refuses("9: over", BUSY, h -> h.resume(0, 3), Check.STATE);
        Check.refuses("9: on another table", BUSY, h -> h.resume(3, 3), Check.STATE);
        Check.refuses("9: on that table", BUSY, h -> h.resume(3, 0), Check.STATE);
        Check.refuses("9: a closed table", BUSY, h -> h.resume(1, 1), Check.STATE);
        Check.refuses("9: a table with a frame of the league", BUSY, h -> h.resume(1, 0), Check.STATE);
        Check.refuses("9: a table with another frame", BUSY, h -> h.resume(1, 2), Check.STATE);
        Check.refuses("9: not of the league, rented by nobody", BUSY, h -> h.resume(4, 3), Check.STATE);
        Supplier<BaulkHall> byThird = () -> {
            BaulkHall hall = Halls.busy();
            hall.rent(3, 5);
            return hall;
        };
        Check.refuses("9: not of the league, rented by a third", byThird, h -> h.resume(4, 3), Check.STATE);
        Check.same("9: of the league, rented by a third", byThird.get().resume(1, 3), 2);
        for (int renter = 0; renter < 2; renter++) {
            BaulkHall hall = Halls.busy();
            hall.rent(3, renter);
            Check.same("9: not of the league, rented by " + renter, hall.resume(4, 3), 1);
            Check.same("9: it is there", hall.frameOn(3), 4);
            Check.same("9: it does not wait", hall.state(4), 0);
            Check.same("9: it was put there once", Check.outcome(hall, h -> h.resume(4, 3)), Check.STATE.getName());
        }
        BaulkHall elsewhere = Halls.allRented();
        elsewhere.begin(0, 0, 3, false);
        elsewhere.end(0);
        Check.same("9: a frame of two who rent, on the table of the second", elsewhere.resume(0, 3), 0);
        for (int frame = 0; frame < 20; frame++) {
            BaulkHall twenty = Halls.twentyWaiting();
            Check.same("9: whose turn it is in frame " + frame, twenty.resume(frame, 3), frame % 8);
        }
        BaulkHall turned = Halls.bare("0,1");
        turned.tear(0);
        Check.same("9: the turn of the second", turned.resume(0, 1), 1);
    }

    private static void promise21Frames() {
        Check.same("21: none", new BaulkHall().frames(), 0);
        Check.same("21: one", Halls.bare("").frames(), 1);
        Check.same("21: some wait, one is over", Halls.busy().frames(), 5);
        Check.same("21: twenty", Halls.twentyWaiting().frames(), 20);
        BaulkHall hall = Halls.twentyWaiting();
        Check.outcome(hall, h -> h.begin(0, 0, 1, true));
        Check.same("21: twenty, as no more can be begun", hall.frames(), 20);
        BaulkHall refused = new BaulkHall();
        Check.outcome(refused, h -> h.begin(0, 0, 1, false));
        Check.same("21: none, as it was refused", refused.frames(), 0);
    }

    private static void promise22State() {
        frameOf("22: the frame", BaulkHall::state);
        int[] states = {2, 1, 0, 0, 1};
        for (int frame = 0; frame < states.length; frame++) {
            Check.same("22: frame " + frame + " of a busy hall", Halls.busy().state(frame), states[frame]);
        }
        BaulkHall twenty = Halls.twentyWaiting();
        twenty.resume(19, 0);
        Check.same("22: the last of twenty", twenty.state(19), 0);
        Check.same("22: the one ahead of it", twenty.state(18), 1);
    }

    private static final List<String> SHOTS_TO_BALL_ON = List.of("", "2,39 5,40", "6,26 7,16 3,28",
            "2,38 5,40 6,26 3,40 1,15", "2,38 5,40 2,6 1,34 3,40", "0,30 3,28 1,19 1,28 1,24",
            "2,38 5,40 5,40 1,19 2,26 1,38 1,20 2,10 7,40");

    /** A frame in which a ball 1 to 7 is on. */
    static BaulkHall withBallOn(int ball) {
        return Halls.bare(SHOTS_TO_BALL_ON.get(ball - 1));
    }

    private static void promise24BallOn() {
        frameOf("24: the frame", BaulkHall::ballOn);
        for (int ball = 1; ball <= 7; ball++) {
            BaulkHall hall = withBallOn(ball);
            Check.same("24: the ball " + ball, hall.ballOn(0), ball);
            for (int lower = 1; lower < ball; lower++) {
                Check.same("23: the ball " + lower + " is away", hall.cell(0, lower), -1);
            }
            Check.same("23: the ball " + ball + " is there", hall.cell(0, ball) >= 0, true);
        }
        BaulkHall over = Halls.bare(Halls.WON_BY_FIRST);
        Check.same("24: none, as the frame is over", over.ballOn(0), -1);
        BaulkHall waits = withBallOn(7);
        waits.tear(0);
        Check.same("24: while it waits", waits.ballOn(0), 7);
    }

    private static void promise26Turn() {
        frameOf("26: the frame", BaulkHall::turn);
        for (int[] players : new int[][] {{0, 7}, {7, 0}}) {
            BaulkHall hall = new BaulkHall();
            hall.begin(0, players[0], players[1], true);
            Check.same("26: the first player's at first", hall.turn(0), players[0]);
            hall.shoot(0, 0, 1);
            Check.same("26: the other one's behind a foul", hall.turn(0), players[1]);
            hall.tear(0);
            Check.same("26: while the frame waits", hall.turn(0), players[1]);
        }
        Check.same("26: the other one's when no ball dropped", Halls.bare("2,10").turn(0), 1);
        Check.same("26: it stays when a ball dropped", Halls.bare("2,39 5,40").turn(0), 1);
        Check.same("26: nobody's, as the frame is over", Halls.bare(Halls.WON_BY_FIRST).turn(0), -1);
        Check.same("26: nobody's, the second won", Halls.bare(Halls.WON_BY_SECOND).turn(0), -1);
    }

    private static void promise27Points() {
        frameOf("27: the first in the frame", (h, frame) -> h.points(frame, false));
        frameOf("27: the second in the frame", (h, frame) -> h.points(frame, true));
        Check.same("27: the first has none at first", Halls.bare("").points(0, false), 0);
        Check.same("27: the second has none at first", Halls.bare("").points(0, true), 0);
        BaulkHall hall = Halls.bare("0,1");
        Check.same("27: of a foul the first has none", hall.points(0, false), 0);
        Check.same("27: of a foul the second has 4", hall.points(0, true), 4);
        BaulkHall over = Halls.bare(Halls.WON_BY_FIRST);
        Check.same("27: the first when it is over", over.points(0, false), 29);
        Check.same("27: the second when it is over", over.points(0, true), 14);
    }

    private static void promise28Winner() {
        frameOf("28: the frame", BaulkHall::winner);
        Check.same("28: nobody at first", Halls.bare("").winner(0), -1);
        Check.same("28: nobody with one ball on the bed", withBallOn(7).winner(0), -1);
        for (int[] players : new int[][] {{0, 7}, {7, 0}}) {
            String[] shots = {Halls.WON_BY_FIRST, Halls.WON_BY_SECOND,
                Halls.TIE_OF_FIRST, Halls.TIE_OF_SECOND};
            for (int i = 0; i < shots.length; i++) {
                BaulkHall hall = new BaulkHall();
                hall.begin(0, players[0], players[1], true);
                Halls.play(hall, 0, shots[i].substring(0, shots[i].lastIndexOf(' ')));
                Check.same("28: nobody ahead of the last shot", hall.winner(0), -1);
                Halls.play(hall, 0, shots[i].substring(shots[i].lastIndexOf(' ') + 1));
                Check.same("28: who won", hall.winner(0), players[i % 2]);
            }
        }
    }

    /** A customer wins some frames of the league, each against the next one of the others. */
    private static BaulkHall wonBy(int customer, int frames) {
        BaulkHall hall = new BaulkHall();
        winMore(hall, customer, frames);
        return hall;
    }

    private static void winMore(BaulkHall hall, int customer, int frames) {
        for (int i = 0; i < frames; i++) {
            Halls.play(hall, hall.begin(0, customer, (customer + 1) % 8, true), Halls.WON_BY_FIRST);
        }
    }

    private static void promise31Wins() {
        Check.range("31: the customer", BUSY, 0, 7, (h, customer) -> h.wins(customer), Check.INDEX);
        for (int customer : new int[] {0, 7}) {
            for (int wins : new int[] {0, 1, 20}) {
                BaulkHall hall = wonBy(customer, wins);
                Check.same("31: wins of " + customer, hall.wins(customer), wins);
                Check.same("31: of the other one", hall.wins((customer + 1) % 8), 0);
            }
        }
        BaulkHall other = new BaulkHall();
        other.rent(0, 4);
        Halls.play(other, other.begin(0, 4, 5, false), Halls.WON_BY_FIRST);
        Check.same("31: none of a frame that is not of the league", other.wins(4), 0);
        BaulkHall last = Halls.bare(Halls.WON_BY_FIRST.substring(0, Halls.WON_BY_FIRST.lastIndexOf(' ')));
        Check.same("31: none with one ball on the bed", last.wins(0), 0);
    }

    private static void promise32Rank() {
        Check.range("32: the customer", BUSY, 0, 7, (h, customer) -> h.rank(customer), Check.INDEX);
        for (int loser : new int[] {0, 7}) {
            BaulkHall hall = new BaulkHall();
            for (int customer = 0; customer < 8; customer++) {
                winMore(hall, customer, customer == loser ? 0 : 1);
            }
            for (int customer = 0; customer < 8; customer++) {
                Check.same("32: all but " + loser + " have won one", hall.rank(customer), customer == loser ? 7 : 0);
            }
        }
        BaulkHall best = wonBy(7, 2);
        winMore(best, 3, 1);
        winMore(best, 5, 2);
        int[] ranks = {3, 3, 3, 2, 3, 0, 3, 0};
        for (int customer = 0; customer < 8; customer++) {
            Check.same("32: two have won two, one has won one", best.rank(customer), ranks[customer]);
        }
    }
}
