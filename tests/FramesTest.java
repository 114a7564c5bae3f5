/** Promises 8, 9, 21, 22, 24 to 28, 31 and 32: frames from beginning to end. Edges are in FramesEdgesTest. */
public final class FramesTest {
    public static void main(String[] args) {
        begin();
        resume();
        goesOnAsItStood();
        ends("won by the first", Halls.WON_BY_FIRST, 4, 29, 14);
        ends("won by the second", Halls.WON_BY_SECOND, 6, 8, 32);
        ends("with the same points, the last shot by the first", Halls.TIE_OF_FIRST, 4, 24, 24);
        ends("with the same points, the last shot by the second", Halls.TIE_OF_SECOND, 6, 18, 18);
        winsAndRanks();
        Check.finish("FramesTest");
    }

    /** Table 0 is rented by 2, with his frame 0 there; table 1 is closed; table 2 has a frame of the league. */
    private static BaulkHall someFrames() {
        BaulkHall hall = new BaulkHall();
        hall.rent(0, 2);
        hall.tear(1);
        hall.begin(0, 3, 2, false);
        hall.begin(2, 4, 5, true);
        return hall;
    }

    private static void begin() {
        BaulkHall hall = new BaulkHall();
        hall.rent(3, 6);
        Check.same("8: begin(3, 6, 1, false), the first rents", hall.begin(3, 6, 1, false), 0);
        hall.rent(2, 1);
        Check.same("8: begin(2, 0, 1, false), the second rents", hall.begin(2, 0, 1, false), 1);
        Check.same("8: begin(1, 7, 0, true), not rented", hall.begin(1, 7, 0, true), 2);
        hall.rent(0, 5);
        Check.same("8: begin(0, 1, 7, true), rented by another", hall.begin(0, 1, 7, true), 3);
        Check.same("21: frames()", hall.frames(), 4);
        Check.same("18: frameOn(1)", hall.frameOn(1), 2);
        Check.same("22: state(2)", hall.state(2), 0);
        Check.same("26: turn(2), the first player's", hall.turn(2), 7);
        Check.same("24: ballOn(2)", hall.ballOn(2), 1);
        Check.same("25: isFree(2)", hall.isFree(2), false);
        Check.same("27: points(2, false)", hall.points(2, false), 0);
        Check.same("27: points(2, true)", hall.points(2, true), 0);
        Check.same("28: winner(2)", hall.winner(2), -1);
        Check.same("23: the cells", Check.cellsOf(hall, 2), "[67, 74, 59, 91, 44, 76, 108, 77]");
    }

    private static void resume() {
        BaulkHall hall = someFrames();
        hall.end(0);
        hall.tear(2);
        hall.rent(3, 7);
        hall.mend(2);
        hall.begin(2, 0, 1, true);
        Check.same("9: resume(1, 3), of the league", hall.resume(1, 3), 4);
        Check.same("9: it is on the table", hall.frameOn(3), 1);
        hall.rent(0, 2);
        Check.same("9: resume(0, 0), the second player rents", hall.resume(0, 0), 3);
        Check.same("22: its state", hall.state(0), 0);
        hall.end(0);
        hall.rent(0, 3);
        Check.same("9: resume(0, 0), the first player rents", hall.resume(0, 0), 3);
    }

    private static void goesOnAsItStood() {
        BaulkHall moved = new BaulkHall();
        BaulkHall stayed = new BaulkHall();
        for (BaulkHall hall : new BaulkHall[] {moved, stayed}) {
            hall.begin(0, 4, 6, true);
            Halls.play(hall, 0, "2,40 5,40 2,6");
        }
        moved.tear(0);
        Check.same("22: it waits", moved.state(0), 1);
        Check.same("25: the free ball while it waits", moved.isFree(0), true);
        Check.same("26: the turn while it waits", moved.turn(0), 4);
        Check.same("9: resume(0, 2)", moved.resume(0, 2), 4);
        Check.same("9: it goes on as it stood, by a free ball", Halls.play(moved, 0, "1,36"), 6);
        Halls.play(stayed, 0, "1,36");
        Check.same("23: the cells behind that", Check.cellsOf(moved, 0), Check.cellsOf(stayed, 0));
        Check.same("27: the points of the first", moved.points(0, false), 10);
        Check.same("27: the points of the second", moved.points(0, true), 1);
    }

    /** A frame of 4 and 6 on the table 1, played to its end; the table is rented by 6. */
    private static BaulkHall ended(String shots, boolean isLeague) {
        BaulkHall hall = new BaulkHall();
        hall.rent(1, 6);
        hall.begin(1, 4, 6, isLeague);
        Halls.play(hall, 0, shots);
        return hall;
    }

    private static void ends(String what, String shots, int winner, int firstPoints, int secondPoints) {
        BaulkHall before = ended(shots.substring(0, shots.lastIndexOf(' ')), true);
        Check.same("22: ahead of the last shot, " + what, before.state(0), 0);
        Check.same("28: ahead of the last shot, " + what, before.winner(0), -1);
        Check.same("31: ahead of the last shot, " + what, before.wins(winner), 0);
        for (boolean isLeague : new boolean[] {true, false}) {
            BaulkHall hall = ended(shots, isLeague);
            Check.same("22: state, " + what, hall.state(0), 2);
            Check.same("28: winner, " + what, hall.winner(0), winner);
            Check.same("27: points of the first, " + what, hall.points(0, false), firstPoints);
            Check.same("27: points of the second, " + what, hall.points(0, true), secondPoints);
            Check.same("26: turn, " + what, hall.turn(0), -1);
            Check.same("24: ballOn, " + what, hall.ballOn(0), -1);
            Check.same("25: isFree, " + what, hall.isFree(0), false);
            Check.same("18: frameOn, " + what, hall.frameOn(1), -1);
            Check.same("31: wins, " + what, hall.wins(winner), isLeague ? 1 : 0);
            Check.same("31: wins of the other one, " + what, hall.wins(10 - winner), 0);
            Check.same("23: the white ball, " + what, hall.cell(0, 0) >= 0, true);
            Check.same("23: the ball 7, " + what, hall.cell(0, 7), -1);
            Check.same("29: contacts with the white ball alone, " + what, hall.contacts(0, 2, 40), 0);
            Check.same("30: contactsByPairs, " + what, hall.contactsByPairs(0, 2, 40), 0);
            Check.same("8: the table has room for another, " + what, hall.begin(1, 6, 4, isLeague), 1);
            Check.same("28: the winner behind another beginning, " + what, hall.winner(0), winner);
        }
    }

    private static void winsAndRanks() {
        BaulkHall hall = new BaulkHall();
        int[][] players = {{0, 1}, {0, 2}, {3, 0}, {5, 4}};
        for (int[] pair : players) {
            int frame = hall.begin(0, pair[0], pair[1], true);
            Halls.play(hall, frame, Halls.WON_BY_FIRST);
        }
        hall.rent(1, 7);
        Halls.play(hall, hall.begin(1, 7, 6, false), Halls.WON_BY_FIRST);
        int[] wins = {2, 0, 0, 1, 0, 1, 0, 0};
        int[] ranks = {0, 3, 3, 1, 3, 1, 3, 3};
        for (int customer = 0; customer < 8; customer++) {
            Check.same("31: wins(" + customer + ")", hall.wins(customer), wins[customer]);
            Check.same("32: rank(" + customer + ")", hall.rank(customer), ranks[customer]);
        }
    }
}
