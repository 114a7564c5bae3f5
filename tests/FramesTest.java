import java.util.function.Supplier;

/** Promises 8, 9, 21, 22, 24 to 28, 31 and 32: frames from their beginning to their end. */
public final class FramesTest {
    /** Shots of two players without cues; the first one wins with 29 to 14 points. */
    static final String WON_BY_FIRST =
            "2,40 5,40 0,12 2,15 1,29 1,22 1,15 5,6 5,6 0,39 1,23 7,40 6,40 7,40";
    /** The second one wins with 32 to 8 points. */
    static final String WON_BY_SECOND =
            "2,40 5,40 7,26 0,23 4,32 3,40 1,18 5,6 7,40 1,40 3,40 3,40 1,40 7,40 5,40 5,30 7,35 3,6";
    /** Both have 24 points, and the first one makes the last shot. */
    static final String TIE_OF_FIRST =
            "0,15 4,26 1,36 4,20 3,40 7,10 1,7 1,40 3,40 7,40 1,40 5,38 5,40 7,40 1,28 1,20 1,21 7,21 1,40 5,40"
            + " 5,40 2,40 3,39 1,15";
    /** Both have 18 points, and the second one makes the last shot. */
    static final String TIE_OF_SECOND =
            "6,40 2,40 6,23 2,40 2,40 2,8 7,29 1,26 4,7 1,38 1,20 1,15 5,6 3,40 1,27 1,40 7,40 7,40 3,35 1,15";

    public static void main(String[] args) {
        begin();
        resume();
        goesOnAsItStood();
        ends("won by the first", WON_BY_FIRST, 4, 29, 14);
        ends("won by the second", WON_BY_SECOND, 6, 8, 32);
        ends("with the same points, the last shot by the first", TIE_OF_FIRST, 4, 24, 24);
        ends("with the same points, the last shot by the second", TIE_OF_SECOND, 6, 18, 18);
        winsAndRanks();
        questions();
        Check.finish("FramesTest");
    }

    /** Makes shots "direction,power direction,power ..", and returns the answer of the last one. */
    static int play(BaulkHall hall, int frame, String shots) {
        int answer = 0;
        for (String shot : shots.split(" ")) {
            String[] parts = shot.split(",");
            answer = hall.shoot(frame, Integer.parseInt(parts[0]), Integer.parseInt(parts[1]));
        }
        return answer;
    }

    /** Table 0 is rented by 2, with his frame 0 there; table 1 is closed; table 2 has a frame of the league. */
    private static BaulkHall someFrames() {
        BaulkHall hall = new BaulkHall();
        hall.rent(0, 2);
        hall.tear(1);
        hall.begin(0, 3, 2, false);
        hall.begin(2, 4, 5, true);
        return hall;
    }

    /** Twenty frames were begun, and all but the last one wait; table 1 is open. */
    private static BaulkHall twentyFrames() {
        BaulkHall hall = new BaulkHall();
        for (int i = 0; i < 20; i++) {
            hall.begin(0, i % 8, (i + 1) % 8, true);
            hall.tear(0);
            hall.mend(0);
        }
        hall.resume(19, 0);
        return hall;
    }

    private static void begin() {
        BaulkHall hall = new BaulkHall();
        hall.rent(3, 6);
        Check.same("8: begin(3, 6, 1, false), the first rents", hall.begin(3, 6, 1, false), 0);
        hall.rent(2, 1);
        Check.same("8: begin(2, 0, 1, false), the second rents", hall.begin(2, 0, 1, false), 1);
        Check.same("8: begin(1, 7, 0, true), not rented", hall.begin(1, 7, 0, true), 2);
        hall.rent(0, 5);
        Check.same("8: begin(0, 1, 7, true), rented by another", hall.begin(0, 1, 7, true), 3);
        Check.same("21: frames()", hall.frames(), 4);
        Check.same("18: frameOn(1)", hall.frameOn(1), 2);
        Check.same("22: state(2)", hall.state(2), 0);
        Check.same("26: turn(2), the first player's", hall.turn(2), 7);
        Check.same("24: ballOn(2)", hall.ballOn(2), 1);
        Check.same("25: isFree(2)", hall.isFree(2), false);
        Check.same("27: points(2, false)", hall.points(2, false), 0);
        Check.same("27: points(2, true)", hall.points(2, true), 0);
        Check.same("28: winner(2)", hall.winner(2), -1);
        Check.same("23: the cells", Check.cellsOf(hall, 2), "[67, 74, 59, 91, 44, 76, 108, 77]");
        beginRefuses();
        BaulkHall twenty = twentyFrames();
        Check.same("21: frames() of twenty", twenty.frames(), 20);
        Check.same("22: the last of twenty", twenty.state(19), 0);
    }

    private static void beginRefuses() {
        Supplier<BaulkHall> made = FramesTest::someFrames;
        Check.refuses("8: begin(4, 0, 1, true)", made, h -> h.begin(4, 0, 1, true), Check.INDEX);
        Check.refuses("8: begin(-1, 0, 1, true)", made, h -> h.begin(-1, 0, 1, true), Check.INDEX);
        Check.refuses("8: begin(3, 8, 1, true)", made, h -> h.begin(3, 8, 1, true), Check.INDEX);
        Check.refuses("8: begin(3, -1, 1, true)", made, h -> h.begin(3, -1, 1, true), Check.INDEX);
        Check.refuses("8: begin(3, 1, 8, true)", made, h -> h.begin(3, 1, 8, true), Check.INDEX);
        Check.refuses("8: begin(3, 1, -1, true)", made, h -> h.begin(3, 1, -1, true), Check.INDEX);
        Check.refuses("8: begin(3, 8, 8, true), the same and none", made, h -> h.begin(3, 8, 8, true), Check.INDEX);
        Check.refuses("8: begin(4, 1, 1, true), the same", made, h -> h.begin(4, 1, 1, true), Check.INDEX);
        Check.refuses("8: begin(3, 1, 1, true)", made, h -> h.begin(3, 1, 1, true), Check.ARGUMENT);
        Check.refuses("8: begin(1, 1, 1, true), closed", made, h -> h.begin(1, 1, 1, true), Check.ARGUMENT);
        Check.refuses("8: begin(1, 0, 1, true), closed", made, h -> h.begin(1, 0, 1, true), Check.STATE);
        Check.refuses("8: begin(2, 0, 1, true), a frame is there", made, h -> h.begin(2, 0, 1, true), Check.STATE);
        Check.refuses("8: begin(0, 2, 1, false), a frame is there", made, h -> h.begin(0, 2, 1, false), Check.STATE);
        Check.refuses("8: begin(3, 0, 1, false), not rented", made, h -> h.begin(3, 0, 1, false), Check.STATE);
        Check.refuses("8: begin(3, 2, 1, false), rents another", made, h -> h.begin(3, 2, 1, false), Check.STATE);
        Supplier<BaulkHall> rented = () -> {
            BaulkHall hall = someFrames();
            hall.rent(3, 6);
            return hall;
        };
        Check.refuses("8: begin(3, 0, 1, false), rented by none", rented, h -> h.begin(3, 0, 1, false), Check.STATE);
        Check.refuses("8: a 21st frame", FramesTest::twentyFrames, h -> h.begin(1, 0, 1, true), Check.STATE);
        Check.refuses("8: a 21st frame of one", FramesTest::twentyFrames, h -> h.begin(1, 1, 1, true), Check.ARGUMENT);
        Check.refuses("8: a 21st frame on none", FramesTest::twentyFrames, h -> h.begin(4, 0, 1, true), Check.INDEX);
    }

    private static void resume() {
        Supplier<BaulkHall> made = () -> {
            BaulkHall hall = someFrames();
            hall.end(0);
            hall.tear(2);
            hall.rent(3, 7);
            hall.mend(2);
            hall.begin(2, 0, 1, true);
            return hall;
        };
        Check.refuses("9: resume(3, 0)", made, h -> h.resume(3, 0), Check.INDEX);
        Check.refuses("9: resume(-1, 0)", made, h -> h.resume(-1, 0), Check.INDEX);
        Check.refuses("9: resume(1, 4)", made, h -> h.resume(1, 4), Check.INDEX);
        Check.refuses("9: resume(1, -1)", made, h -> h.resume(1, -1), Check.INDEX);
        Check.refuses("9: resume(2, 4), it does not wait", made, h -> h.resume(2, 4), Check.INDEX);
        Check.refuses("9: resume(2, 0), it does not wait", made, h -> h.resume(2, 0), Check.STATE);
        Check.refuses("9: resume(1, 1), closed", made, h -> h.resume(1, 1), Check.STATE);
        Check.refuses("9: resume(1, 2), a frame is there", made, h -> h.resume(1, 2), Check.STATE);
        Check.refuses("9: resume(0, 0), not rented", made, h -> h.resume(0, 0), Check.STATE);
        Check.refuses("9: resume(0, 3), rented by another", made, h -> h.resume(0, 3), Check.STATE);
        BaulkHall hall = made.get();
        Check.same("9: resume(1, 3), of the league", hall.resume(1, 3), 4);
        Check.same("9: it is on the table", hall.frameOn(3), 1);
        hall.rent(0, 2);
        Check.same("9: resume(0, 0), the second player rents", hall.resume(0, 0), 3);
        Check.same("22: its state", hall.state(0), 0);
        hall.end(0);
        hall.rent(0, 3);
        Check.same("9: resume(0, 0), the first player rents", hall.resume(0, 0), 3);
        Supplier<BaulkHall> over = () -> ended(WON_BY_FIRST, true);
        Check.refuses("9: resume of a frame that is over", over, h -> h.resume(0, 1), Check.STATE);
    }

    private static void goesOnAsItStood() {
        BaulkHall moved = new BaulkHall();
        BaulkHall stayed = new BaulkHall();
        for (BaulkHall hall : new BaulkHall[] {moved, stayed}) {
            hall.begin(0, 4, 6, true);
            play(hall, 0, "2,40 5,40 2,6");
        }
        moved.tear(0);
        Check.same("22: it waits", moved.state(0), 1);
        Check.same("25: the free ball while it waits", moved.isFree(0), true);
        Check.same("26: the turn while it waits", moved.turn(0), 4);
        Check.same("9: resume(0, 2)", moved.resume(0, 2), 4);
        Check.same("9: it goes on as it stood, by a free ball", play(moved, 0, "1,36"), 6);
        play(stayed, 0, "1,36");
        Check.same("23: the cells behind that", Check.cellsOf(moved, 0), Check.cellsOf(stayed, 0));
        Check.same("27: the points of the first", moved.points(0, false), 10);
        Check.same("27: the points of the second", moved.points(0, true), 1);
    }

    /** A frame of 4 and 6 on the table 1, played to its end; the table is rented by 6. */
    private static BaulkHall ended(String shots, boolean isLeague) {
        BaulkHall hall = new BaulkHall();
        hall.rent(1, 6);
        hall.begin(1, 4, 6, isLeague);
        play(hall, 0, shots);
        return hall;
    }

    private static void ends(String what, String shots, int winner, int firstPoints, int secondPoints) {
        BaulkHall before = ended(shots.substring(0, shots.lastIndexOf(' ')), true);
        Check.same("22: ahead of the last shot, " + what, before.state(0), 0);
        Check.same("28: ahead of the last shot, " + what, before.winner(0), -1);
        Check.same("31: ahead of the last shot, " + what, before.wins(winner), 0);
        for (boolean isLeague : new boolean[] {true, false}) {
            BaulkHall hall = ended(shots, isLeague);
            Check.same("22: state, " + what, hall.state(0), 2);
            Check.same("28: winner, " + what, hall.winner(0), winner);
            Check.same("27: points of the first, " + what, hall.points(0, false), firstPoints);
            Check.same("27: points of the second, " + what, hall.points(0, true), secondPoints);
            Check.same("26: turn, " + what, hall.turn(0), -1);
            Check.same("24: ballOn, " + what, hall.ballOn(0), -1);
            Check.same("25: isFree, " + what, hall.isFree(0), false);
            Check.same("18: frameOn, " + what, hall.frameOn(1), -1);
            Check.same("31: wins, " + what, hall.wins(winner), isLeague ? 1 : 0);
            Check.same("31: wins of the other one, " + what, hall.wins(10 - winner), 0);
            Check.same("23: the white ball, " + what, hall.cell(0, 0) >= 0, true);
            Check.same("23: the ball 7, " + what, hall.cell(0, 7), -1);
            Check.same("29: contacts with the white ball alone, " + what, hall.contacts(0, 2, 40), 0);
            Check.same("30: contactsByPairs, " + what, hall.contactsByPairs(0, 2, 40), 0);
            Check.same("8: the table has room for another, " + what, hall.begin(1, 6, 4, isLeague), 1);
            Check.same("28: the winner behind another beginning, " + what, hall.winner(0), winner);
        }
    }

    private static void winsAndRanks() {
        BaulkHall hall = new BaulkHall();
        int[][] players = {{0, 1}, {0, 2}, {3, 0}, {5, 4}};
        for (int[] pair : players) {
            int frame = hall.begin(0, pair[0], pair[1], true);
            play(hall, frame, WON_BY_FIRST);
        }
        hall.rent(1, 7);
        play(hall, hall.begin(1, 7, 6, false), WON_BY_FIRST);
        int[] wins = {2, 0, 0, 1, 0, 1, 0, 0};
        int[] ranks = {0, 3, 3, 1, 3, 1, 3, 3};
        for (int customer = 0; customer < 8; customer++) {
            Check.same("31: wins(" + customer + ")", hall.wins(customer), wins[customer]);
            Check.same("32: rank(" + customer + ")", hall.rank(customer), ranks[customer]);
        }
        for (int customer : new int[] {-1, 8, Integer.MIN_VALUE, Integer.MAX_VALUE}) {
            Check.refuses("31: wins(" + customer + ")", BaulkHall::new, h -> h.wins(customer), Check.INDEX);
            Check.refuses("32: rank(" + customer + ")", BaulkHall::new, h -> h.rank(customer), Check.INDEX);
        }
    }

    private static void questions() {
        Supplier<BaulkHall> made = FramesTest::someFrames;
        for (int frame : new int[] {-1, 2, 20, Integer.MIN_VALUE, Integer.MAX_VALUE}) {
            Check.refuses("22: state(" + frame + ")", made, h -> h.state(frame), Check.INDEX);
            Check.refuses("23: cell(" + frame + ", 0)", made, h -> h.cell(frame, 0), Check.INDEX);
            Check.refuses("24: ballOn(" + frame + ")", made, h -> h.ballOn(frame), Check.INDEX);
            Check.refuses("25: isFree(" + frame + ")", made, h -> h.isFree(frame), Check.INDEX);
            Check.refuses("26: turn(" + frame + ")", made, h -> h.turn(frame), Check.INDEX);
            Check.refuses("27: points(" + frame + ")", made, h -> h.points(frame, true), Check.INDEX);
            Check.refuses("28: winner(" + frame + ")", made, h -> h.winner(frame), Check.INDEX);
        }
        for (int ball : new int[] {-1, 8, Integer.MIN_VALUE, Integer.MAX_VALUE}) {
            Check.refuses("23: cell(0, " + ball + ")", made, h -> h.cell(0, ball), Check.INDEX);
        }
        Check.refuses("22: state(20) of twenty", FramesTest::twentyFrames, h -> h.state(20), Check.INDEX);
        Check.refuses("22: state(0) of none", BaulkHall::new, h -> h.state(0), Check.INDEX);
    }
}
