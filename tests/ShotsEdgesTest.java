import java.util.List;
import java.util.function.Supplier;

/** The boundary cases of the promises 10, 23, 25, 29 and 30, and of the balls under "Terms": shots. */
public final class ShotsEdgesTest {
    private static final Supplier<BaulkHall> FRESH = BaulkHall::new;
    private static final Supplier<BaulkHall> BUSY = Halls::busy;
    private static final Supplier<BaulkHall> OVER = () -> Halls.bare(Halls.WON_BY_FIRST);
    private static final Supplier<BaulkHall> WAITS = () -> {
        BaulkHall hall = Halls.bare("3,24");
        hall.tear(0);
        return hall;
    };

    public static void main(String[] args) {
        Check.promise(10, "shoot", ShotsEdgesTest::promise10Shoot);
        Check.promise(10, "shoot, borders and pockets", ShotsEdgesTest::promise10Borders);
        Check.promise(10, "shoot, fouls", ShotsEdgesTest::promise10Fouls);
        Check.promise(10, "shoot, the last balls", ShotsEdgesTest::promise10LastBalls);
        Check.promise(23, "cell", ShotsEdgesTest::promise23Cell);
        Check.promise(25, "isFree", ShotsEdgesTest::promise25IsFree);
        Check.promise(29, "contacts", ShotsEdgesTest::promise29Contacts);
        Check.promise(30, "contactsByPairs", ShotsEdgesTest::promise30ContactsByPairs);
        Check.finish("ShotsEdgesTest");
    }

    private static void promise10Shoot() {
        Check.range("10: the direction", Halls::cued, 0, 7, (h, d) -> h.shoot(0, d, 5), Check.ARGUMENT);
        Check.range("10: the power", Halls::cued, 1, 40, (h, power) -> h.shoot(0, 4, power), Check.ARGUMENT);
        Check.refusesBeyond("10: the frame of none", FRESH, 0, -1, (h, f) -> h.shoot(f, 0, 1), Check.INDEX);
        Check.refusesBeyond("10: the frame of one", Halls::cued, 0, 0, (h, f) -> h.shoot(f, 0, 1), Check.INDEX);
        Check.refusesBeyond("10: the frame of a busy hall", BUSY, 0, 4, (h, f) -> h.shoot(f, 0, 1), Check.INDEX);
        Check.refusesBeyond("10: the frame of twenty", Halls::twentyWaiting, 0, 19,
                (h, frame) -> h.shoot(frame, 0, 1), Check.INDEX);
        Check.refusesBeyond("10: the direction in a busy hall", BUSY, 0, 7, (h, d) -> h.shoot(2, d, 1), Check.ARGUMENT);
        Check.refusesBeyond("10: the power in a busy hall", BUSY, 1, 40, (h, p) -> h.shoot(2, 7, p), Check.ARGUMENT);
        Check.refusesBeyond("10: the direction in one that waits", WAITS, 0, 7,
                (h, direction) -> h.shoot(0, direction, 1), Check.ARGUMENT);
        Check.refusesBeyond("10: the power in one that is over", OVER, 1, 40,
                (h, power) -> h.shoot(0, 0, power), Check.ARGUMENT);
        Check.refuses("10: no frame and no direction", BUSY, h -> h.shoot(5, 8, 1), Check.INDEX);
        Check.refuses("10: no frame and no power", BUSY, h -> h.shoot(-1, 0, 41), Check.INDEX);
        for (int direction = 0; direction < 8; direction++) {
            int d = direction;
            Check.refuses("10: it waits, " + d, WAITS, h -> h.shoot(0, d, 40), Check.STATE);
            Check.refuses("10: it is over, " + d, OVER, h -> h.shoot(0, d, 1), Check.STATE);
        }
        Check.refuses("10: a frame of the league that waits", BUSY, h -> h.shoot(1, 0, 1), Check.STATE);
        Check.refuses("10: a frame that waits behind renting", BUSY, h -> h.shoot(4, 0, 1), Check.STATE);
        forcesOfShots();
        BaulkHall last = Halls.twentyWaiting();
        last.resume(19, 3);
        Check.same("10: a shot in the last of twenty", last.shoot(19, 0, 1), -4);
    }

    /** To the left from the column 3, with a wear, without a cue, and with at least the force 1. */
    private static void forcesOfShots() {
        // wear, power, columns
        int[][] rows = {{0, 1, 1}, {0, 2, 2}, {0, 3, 3}, {1, 1, 1}, {1, 2, 1}, {1, 3, 2}, {99, 1, 1}, {99, 3, 1},
            {99, 4, 2}, {100, 1, 1}, {100, 3, 1}, {100, 4, 2}, {100, 5, 2}, {100, 6, 3}};
        for (int[] row : rows) {
            BaulkHall hall = Halls.worn(row[0]);
            if (hall.turn(0) != 0) {
                hall.shoot(0, 0, 1);
            }
            int from = hall.cell(0, 0);
            hall.shoot(0, 6, row[1]);
            Check.same("10: the wear " + row[0] + " and the power " + row[1], from - hall.cell(0, 0), row[2]);
        }
        int[][] bare = {{1, 1}, {2, 1}, {3, 2}, {4, 3}, {5, 3}};
        for (int[] row : bare) {
            Check.same("10: without a cue the power " + row[0],
                    67 - Halls.bare("6," + row[0]).cell(0, 0), row[1]);
        }
    }

    /** From where shots without contacts brought it, the white ball goes in a direction with a force. */
    private static void whiteFrom(String before, int direction, int force, int due) {
        BaulkHall hall = Halls.bare(before);
        int from = hall.cell(0, 0);
        Check.same("10: no ball is met from " + from, hall.shoot(0, direction, Halls.barePower(force)), -4);
        Check.same("10: from " + from + " in the direction " + direction + " with the force " + force,
                hall.cell(0, 0), due);
    }

    private static void promise10Borders() {
        String toLeft = "6,4";
        String toTop = "0,6";
        String toBottom = "4,4";
        String toRight = "0,4 2,16";
        // beyond the left border, from the cell 64, of the row 4
        whiteFrom(toLeft, 6, 1, 64);
        whiteFrom(toLeft, 6, 2, 65);
        whiteFrom(toLeft, 7, 1, 64);
        whiteFrom(toLeft, 7, 2, 49);
        whiteFrom(toLeft, 5, 1, 64);
        whiteFrom(toLeft, 5, 2, 81);
        // beyond the right border, from the cell 31, of the row 1
        whiteFrom(toRight, 2, 1, 31);
        whiteFrom(toRight, 2, 2, 30);
        whiteFrom(toRight, 1, 1, 31);
        whiteFrom(toRight, 1, 2, 14);
        whiteFrom(toRight, 3, 1, 31);
        whiteFrom(toRight, 3, 2, 46);
        // beyond the upper border, from the cell 3
        whiteFrom(toTop, 0, 1, 3);
        whiteFrom(toTop, 0, 2, 19);
        whiteFrom(toTop, 1, 1, 3);
        whiteFrom(toTop, 1, 2, 20);
        whiteFrom(toTop, 7, 1, 3);
        whiteFrom(toTop, 7, 2, 18);
        // beyond the lower border, from the cell 115
        whiteFrom(toBottom, 4, 1, 115);
        whiteFrom(toBottom, 4, 2, 99);
        whiteFrom(toBottom, 3, 1, 115);
        whiteFrom(toBottom, 3, 2, 100);
        whiteFrom(toBottom, 5, 1, 115);
        whiteFrom(toBottom, 5, 2, 98);
        // the first and the last column and row are reached with the last force
        whiteFrom("0,4", 2, 12, 31);
        whiteFrom("", 6, 3, 64);
        whiteFrom("", 0, 4, 3);
        whiteFrom("", 4, 3, 115);
        // from border to border: 118, turned; 13, turned; 47, turned; 62
        whiteFrom("", 3, 10, 28);
        whiteFrom("", 3, 11, 13);
        whiteFrom("", 3, 12, 13);
        whiteFrom("", 3, 13, 30);
        whiteFrom("", 3, 14, 47);
        whiteFrom("", 3, 15, 47);
        whiteFrom("", 3, 16, 62);
        pockets(toLeft, toTop, toBottom, toRight);
    }

    /** Into each pocket, and to the cell ahead of it; a white ball that dropped comes back to the cell 67. */
    private static void pockets(String toLeft, String toTop, String toBottom, String toRight) {
        whiteFrom(toLeft, 0, 3, 16);
        whiteFrom(toLeft, 0, 4, 67);
        whiteFrom(toTop, 6, 2, 1);
        whiteFrom(toTop, 6, 3, 67);
        whiteFrom(toTop, 2, 3, 6);
        whiteFrom(toTop, 2, 4, 67);
        whiteFrom("", 1, 3, 22);
        whiteFrom("", 1, 4, 67);
        whiteFrom(toRight, 0, 1, 67);
        whiteFrom(toRight, 4, 5, 111);
        whiteFrom(toRight, 4, 6, 67);
        whiteFrom(toLeft, 4, 2, 96);
        whiteFrom(toLeft, 4, 3, 67);
        whiteFrom(toBottom, 6, 2, 113);
        whiteFrom(toBottom, 6, 3, 67);
        whiteFrom(toBottom, 2, 3, 118);
        whiteFrom(toBottom, 2, 4, 67);
        // a ball that dropped is on the bed no more, and its force goes nowhere
        whiteFrom(toBottom, 2, 30, 67);
    }

    private static void foul(String what, int ballOn, String shots, int due) {
        int end = shots.lastIndexOf(' ');
        BaulkHall hall = Halls.bare(shots.substring(0, Math.max(0, end)));
        Check.same("24: the ball on ahead of a shot, " + what, hall.ballOn(0), ballOn);
        int player = hall.turn(0);
        int others = hall.points(0, player == 0);
        int own = hall.points(0, player == 1);
        Check.same("10: " + what + ", the ball on is " + ballOn,
                Halls.play(hall, 0, shots.substring(end + 1)), -due);
        Check.same("26: the other one's turn, " + what, hall.turn(0), 1 - player);
        Check.same("27: the other one's points, " + what, hall.points(0, player == 0), others + due);
        Check.same("27: the player's points, " + what, hall.points(0, player == 1), own);
        Check.same("24: the ball on behind it, " + what, hall.ballOn(0), ballOn);
    }

    private static void promise10Fouls() {
        int[] due = {4, 4, 4, 4, 5, 6, 7};
        for (int ball = 1; ball <= 7; ball++) {
            BaulkHall hall = FramesEdgesTest.withBallOn(ball);
            Check.same("10: no ball is met, the ball on is " + ball, hall.shoot(0, 0, 1), -due[ball - 1]);
        }
        foul("another ball is met first", 1, "3,23", 4);
        foul("another ball is met first", 2, "2,39 5,40 2,8", 4);
        foul("another ball is met first", 3, "6,26 7,16 3,28 0,3", 4);
        foul("another ball is met first", 4, "2,38 5,40 6,26 3,40 1,15 3,6", 4);
        foul("another ball is met first", 5, "2,38 5,40 2,6 1,34 3,40 3,7", 5);
        foul("another ball is met first", 6, "0,30 3,28 1,19 1,28 1,24 2,4", 6);
        foul("the white ball drops, the ball on was met", 1, "2,23 3,35 7,32 1,36", 4);
        foul("the white ball drops, the ball on was met", 2, "2,40 5,40 0,20 6,14 7,32 1,27", 4);
        foul("the white ball drops, the ball on was met", 3, "4,40 6,28 5,6 1,31 3,35", 4);
        foul("the white ball drops, the ball on was met", 4, "2,31 1,3 7,40 1,32 5,15 3,35 5,36 1,40", 4);
        foul("the white ball drops, the ball on was met", 5,
                "2,30 0,40 1,40 1,26 1,22 5,4 6,19 3,31 5,11 7,35 1,27", 5);
        foul("the white ball drops, the ball on was met", 6,
                "2,39 3,1 1,3 1,8 4,23 1,36 3,38 1,38 3,26 1,38 3,39", 6);
        foul("the white ball drops, the ball on was met", 7,
                "2,10 5,40 7,39 2,36 1,3 7,35 5,12 3,38 1,20 3,23 7,30 1,24 4,8 1,32 7,28 1,32", 7);
        ballOnDropsByFoul();
        foul("with a free ball no ball is met", 1, "0,1 0,1", 4);
        foul("with a free ball the white ball drops, the ball on was met", 1, "2,40 5,7 7,38", 4);
        foul("with a free ball the white ball drops, another ball was met", 1, "0,14 1,38", 4);
        fair("the ball on is met, with the least force that does", "2,10", 0);
        fair("with a free ball another ball is met", "0,1 2,11", 0);
        fair("with a free ball the ball on is met", "0,1 1,11", 0);
        fair("the ball on drops", "2,39 5,40", 1);
        fair("another ball than the one on drops, by a free ball", "0,1 5,30", 5);
        fair("another ball than the one on drops, which is met first", "6,19 5,40 3,31 1,38", 7);
        fair("three balls drop", "3,18 0,20 1,30", 7);
        fair("four balls drop", "2,18 2,39 3,31 1,35", 14);
    }

    /** The points are those of the ball on ahead of the shot: it comes back, and no higher ball is on meanwhile. */
    private static void ballOnDropsByFoul() {
        String white = "the ball on drops, and the white ball";
        foul(white, 4, "3,27 2,14 5,39 5,24 5,37", 4);
        foul(white, 5, "0,26 3,9 3,37 1,39 1,34 3,12", 5);
        foul(white, 6, "6,14 3,38 1,35 1,33 2,36 3,39", 6);
        foul(white + ", of which there is no other", 7, "3,30 2,11 2,9 6,16 3,33 1,5 7,26 4,5 1,37 0,15 6,20", 7);
        foul(white + ", with a free ball", 6, "0,33 6,12 3,39 1,26 1,38 4,26 3,13 0,23 1,32", 6);
        String other = "the ball on drops, and another ball is met first";
        foul(other, 4, "3,27 6,5 1,7 1,36 1,28", 4);
        foul(other, 5, "2,5 3,1 2,39 5,38 1,38 6,39 6,34 3,26", 5);
        foul(other, 6, "1,7 6,13 5,26 2,31 3,36 1,38 1,25 4,31 3,27", 6);
    }

    private static void fair(String what, String shots, int due) {
        int end = shots.lastIndexOf(' ');
        BaulkHall hall = Halls.bare(shots.substring(0, Math.max(0, end)));
        int player = hall.turn(0);
        int own = hall.points(0, player == 1);
        int others = hall.points(0, player == 0);
        Check.same("10: no foul, " + what, Halls.play(hall, 0, shots.substring(end + 1)), due);
        Check.same("27: the player's points, " + what, hall.points(0, player == 1), own + due);
        Check.same("27: the other one's points, " + what, hall.points(0, player == 0), others);
        Check.same("26: the turn, " + what, hall.turn(0), due > 0 ? player : 1 - player);
        Check.same("25: no free ball, " + what, hall.isFree(0), false);
    }

    private static void promise10LastBalls() {
        // the ball 4 is the last one, and drops together with the white ball
        BaulkHall back = Halls.bare("6,19 5,40 3,16 1,36 1,22 6,35 1,24 6,40 7,39 3,18");
        Check.same("23: ahead of it the ball 4 is alone", Check.cellsOf(back, 0).replaceFirst("\\d+", "w")
                .replaceFirst(", \\d+,", ", b,"), "[w, -1, -1, -1, b, -1, -1, -1]");
        Check.same("10: a foul with the last ball", Halls.play(back, 0, "1,26"), -4);
        Check.same("22: it is not over", back.state(0), 0);
        Check.same("28: nobody has won", back.winner(0), -1);
        Check.same("23: both came back to their spots", Check.cellsOf(back, 0), "[67, -1, -1, -1, 44, -1, -1, -1]");
        String two = "2,24 2,40 0,23 3,38 3,32 1,24 5,8 6,26 6,40 1,39 2,36 5,40 0,12";
        String three = "2,15 2,20 0,22 2,26 5,40 5,22 7,10 2,39 7,15 5,28 3,6 2,15 1,31";
        lastTogether(two, "3,30", 2);
        lastTogether(three, "1,20", 3);
    }

    private static void lastTogether(String before, String shot, int balls) {
        BaulkHall hall = Halls.bare(before);
        int sum = 0;
        int count = 0;
        for (int ball = 1; ball <= 7; ball++) {
            if (hall.cell(0, ball) >= 0) {
                sum += ball;
                count++;
            }
        }
        Check.same("23: balls on the bed ahead of the last shot", count, balls);
        Check.same("22: not over ahead of it", hall.state(0), 0);
        Check.same("10: all of them drop", Halls.play(hall, 0, shot), sum);
        Check.same("22: over behind it", hall.state(0), 2);
        Check.same("18: on no table", hall.frameOn(0), -1);
        int first = hall.points(0, false);
        int second = hall.points(0, true);
        Check.same("10: the points differ", first != second, true);
        Check.same("28: who has more points", hall.winner(0), first > second ? 0 : 1);
    }

    private static void promise23Cell() {
        FramesEdgesTest.frameOf("23: the white ball of the frame", (h, frame) -> h.cell(frame, 0));
        Check.range("23: the ball", BUSY, 0, 7, (h, ball) -> h.cell(2, ball), Check.INDEX);
        Check.refusesBeyond("23: the ball of a frame that is over", OVER, 0, 7, (h, b) -> h.cell(0, b), Check.INDEX);
        Check.refuses("23: neither such a frame nor such a ball", FRESH, h -> h.cell(0, 8), Check.INDEX);
        Check.same("23: all on their spots", Check.cellsOf(Halls.bare(""), 0), "[67, 74, 59, 91, 44, 76, 108, 77]");
        BaulkHall over = OVER.get();
        for (int ball = 1; ball <= 7; ball++) {
            Check.same("23: dropped, " + ball, over.cell(0, ball), -1);
        }
        comingBack();
        halves();
        // the balls roll for 44 ticks: the last of them shows at the balls 0, 1 and 5
        BaulkHall longest = Halls.bare("0,4 3,24 5,40 0,32");
        longest.lend(3, longest.turn(0));
        longest.shoot(0, 7, 40);
        Check.same("23: behind a long shot", Check.cellsOf(longest, 0), "[76, 89, 59, 46, 44, 29, 108, 61]");
    }

    private static void comingBack() {
        BaulkHall white = Halls.bare("2,40 5,7");
        Check.same("23: the white ball comes back to its spot", Check.cellsOf(bothBack(white, "7,38"), 0),
                "[67, 74, 59, 91, 44, 76, 108, 78]");
        // the cell 0 is a pocket
        Check.same("23: a spot is taken, and the cell 1 is empty", Check.cellsOf(Halls.bare("6,40 6,40 1,25"), 0),
                "[59, 77, 1, 91, 104, 78, 108, 79]");
        Check.same("23: three come back, one of them to the cell 1", Check.cellsOf(Halls.bare("0,30 3,32 1,32"), 0),
                "[46, 74, 1, 14, 44, 59, 108, 77]");
        Check.same("23: four come back", Check.cellsOf(Halls.bare("0,30 3,39 1,40"), 0),
                "[46, 74, 59, 44, 1, 76, 108, 77]");
        // the balls 5 and 6 are on the spots of the white ball and of the ball 4, which drop both
        Check.same("23: the white ball comes back ahead of the ball 4",
                Check.cellsOf(Halls.bare("2,18 3,36 0,30 1,34 0,14"), 0), "[1, 76, 91, 108, 2, 67, 44, 79]");
        // the cells 1 to 6 have balls, the cell 7 is a pocket, and the ball 7 is on the white ball's spot
        Check.same("23: the white ball comes back to the cell 8",
                Check.cellsOf(Halls.bare("2,1 1,22 5,20 1,22 3,30 7,11 2,24 0,1 3,39 1,23 1,30"), 0),
                "[8, 3, 4, 2, 6, 1, 5, 67]");
    }

    private static BaulkHall bothBack(BaulkHall hall, String shot) {
        Halls.play(hall, 0, shot);
        return hall;
    }

    /** From the cell 73, beside the ball 1, with the forces 1 to 5; half of an odd one is rounded up. */
    private static void halves() {
        String[] due = {
            "[73, 75, 59, 91, 44, 76, 108, 77]",
            "[74, 75, 59, 91, 44, 76, 108, 77]",
            "[74, 75, 59, 91, 44, 76, 108, 78]"};
        for (int force = 1; force <= due.length; force++) {
            BaulkHall hall = Halls.bare("2,8");
            Check.same("23: ahead of a contact", hall.cell(0, 0), 73);
            hall.shoot(0, 2, Halls.barePower(force));
            Check.same("23: behind a contact with the force " + force, Check.cellsOf(hall, 0), due[force - 1]);
        }
    }

    private static void promise25IsFree() {
        FramesEdgesTest.frameOf("25: the frame", BaulkHall::isFree);
        Check.same("25: none at first", Halls.bare("").isFree(0), false);
        Check.same("25: the ball on is in no line", Halls.bare("0,1").isFree(0), true);
        Check.same("25: the ball on is in a line, behind another ball", Halls.bare("3,24").isFree(0), true);
        Check.same("25: the ball on is in a line, behind a pocket", Halls.bare("2,22 3,20 5,20").isFree(0), false);
        Check.same("25: the ball on is in the next cell", Halls.bare("2,8").isFree(0), false);
        farSights();
        Check.same("25: none behind a shot that is no foul", Halls.bare("0,1 2,11").isFree(0), false);
        Check.same("25: none when the frame is over", OVER.get().isFree(0), false);
        Check.same("25: still there while the frame waits", WAITS.get().isFree(0), true);
        BaulkHall refused = Halls.bare("0,1");
        Check.outcome(refused, h -> h.shoot(0, 8, 1));
        Check.same("25: still there behind a refused shot", refused.isFree(0), true);
    }

    /** The ball on lies at the far end of a line, and comes first there, or behind another ball. */
    private static void farSights() {
        sight(2, 15, "2,27 4,4 1,7 2,24 6,13 7,3", "2,20 4,26 1,11 2,2 1,25");
        sight(6, 15, "2,22 3,26 2,38 2,20", "3,24 6,38 2,13");
        sight(2, 14, "2,10 1,39 1,34 7,30", "2,35 7,36 7,17");
        sight(6, 14, "0,16 3,40 3,40", "2,23 3,40 3,6");
        sight(4, 7, "3,11 4,10 0,10", "0,20 5,37 6,26 6,30 0,36 3,14");
        sight(0, 7, "0,25 3,11 4,18 4,10", "3,30 0,22 5,7 3,6");
    }

    private static void sight(int direction, int steps, String seen, String hidden) {
        int[] step = {-16, 0, 1, 0, 16, 0, -1, 0};
        for (boolean isHidden : new boolean[] {false, true}) {
            BaulkHall hall = Halls.bare(isHidden ? hidden : seen);
            String what = " in the direction " + direction + ", " + steps + " steps away";
            Check.same("23: the ball on" + what, hall.cell(0, hall.ballOn(0)) - hall.cell(0, 0),
                    steps * step[direction]);
            Check.same("25: it is hidden" + what, hall.isFree(0), isHidden);
        }
    }

    private static void contactsOf(int promise, String name, Question question) {
        String what = promise + ": " + name;
        FramesEdgesTest.frameOf(what + ", the frame", (h, frame) -> question.ask(h, frame, 0, 1));
        Check.range(what + ", the direction", BUSY, 0, 7, (h, d) -> question.ask(h, 3, d, 1), Check.ARGUMENT);
        Check.range(what + ", the force", BUSY, 1, 40, (h, f) -> question.ask(h, 3, 0, f), Check.ARGUMENT);
        for (Supplier<BaulkHall> made : List.of(OVER, WAITS)) {
            Check.range(what + ", the direction", made, 0, 7, (h, d) -> question.ask(h, 0, d, 40), Check.ARGUMENT);
            Check.range(what + ", the force", made, 1, 40, (h, f) -> question.ask(h, 0, 7, f), Check.ARGUMENT);
        }
        Check.refuses(what + ", no frame and no direction", BUSY, h -> question.ask(h, 5, 8, 1), Check.INDEX);
        Check.refuses(what + ", no frame and no force", BUSY, h -> question.ask(h, -1, 0, 41), Check.INDEX);
        BaulkHall over = OVER.get();
        for (int direction = 0; direction < 8; direction++) {
            Check.same(what + ", with the white ball alone", question.ask(over, 0, direction, 40), 0);
        }
        int[][] rows = {{0, 1, 0}, {2, 6, 0}, {2, 7, 1}, {2, 8, 1}, {2, 9, 3}, {2, 40, 29}, {6, 40, 26}, {7, 40, 0}};
        BaulkHall hall = Halls.bare("");
        String before = Check.cellsOf(hall, 0);
        for (int[] row : rows) {
            Check.same(what + "(0, " + row[0] + ", " + row[1] + ")", question.ask(hall, 0, row[0], row[1]), row[2]);
        }
        for (int direction = 0; direction < 8; direction++) {
            leastForceThatMeets(what, direction, question);
        }
        Check.same(what + " moves no ball", Check.cellsOf(hall, 0), before);
        Check.same(what + " is no shot", hall.points(0, true), 0);
    }

    /** The ball on is seen in a direction: it is met by a force of as many as there are steps to its cell. */
    private static void leastForceThatMeets(String what, int direction, Question question) {
        BaulkHall hall = Halls.bare(Halls.SEEN_IN_DIRECTION[direction]);
        int white = hall.cell(0, 0);
        int seen = hall.cell(0, hall.ballOn(0));
        int steps = Math.max(Math.abs(seen % 16 - white % 16), Math.abs(seen / 16 - white / 16));
        String which = what + ", direction " + direction + " and " + steps + " steps";
        Check.same(which + " meets with that force", question.ask(hall, 0, direction, steps) >= 1, true);
        if (steps > 1) {
            Check.same(which + " meets none with 1 less", question.ask(hall, 0, direction, steps - 1), 0);
        }
    }

    private interface Question {
        int ask(BaulkHall hall, int frame, int direction, int force);
    }

    private static void promise29Contacts() {
        contactsOf(29, "contacts", BaulkHall::contacts);
    }

    private static void promise30ContactsByPairs() {
        contactsOf(30, "contactsByPairs", BaulkHall::contactsByPairs);
    }
}
