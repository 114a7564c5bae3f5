/** Promises 10, 23, 25, 29 and 30: shots, and what they are worth. Edges are in ShotsEdgesTest. */
public final class ShotsTest {
    public static void main(String[] args) {
        rolling();
        meeting();
        fouls();
        comingBack();
        freeBalls();
        points();
        contacts();
        Check.finish("ShotsTest");
    }

    private static void whiteRolls(int direction, int force, int due) {
        BaulkHall hall = Halls.cued();
        hall.shoot(0, direction, force);
        Check.same("10: the white ball behind direction " + direction + " and force " + force, hall.cell(0, 0), due);
    }

    /** From the cell 67, which is in the column 3 and the row 4. */
    private static void rolling() {
        whiteRolls(0, 1, 51);
        whiteRolls(1, 1, 52);
        whiteRolls(2, 1, 68);
        whiteRolls(3, 1, 84);
        whiteRolls(4, 1, 83);
        whiteRolls(5, 1, 82);
        whiteRolls(6, 1, 66);
        whiteRolls(7, 1, 50);
        // up: to the upper border, where a force goes for turning, and down again
        whiteRolls(0, 4, 3);
        whiteRolls(0, 5, 3);
        whiteRolls(0, 6, 19);
        whiteRolls(4, 3, 115);
        whiteRolls(4, 4, 115);
        whiteRolls(4, 5, 99);
        whiteRolls(6, 3, 64);
        whiteRolls(6, 4, 64);
        whiteRolls(6, 5, 65);
        // up and left: beyond the left border at the cell 16, beyond the upper one at the cell 1
        whiteRolls(7, 3, 16);
        whiteRolls(7, 4, 16);
        whiteRolls(7, 5, 1);
        whiteRolls(7, 6, 1);
        whiteRolls(7, 7, 18);
        // down and right: beyond the lower border at the cell 118, and up and right from there
        whiteRolls(3, 3, 118);
        whiteRolls(3, 4, 118);
        whiteRolls(3, 5, 103);
        // up and right into the pocket 7, and down and left into the pocket 112: back on the spot
        whiteRolls(1, 3, 22);
        whiteRolls(1, 4, 67);
        whiteRolls(5, 2, 97);
        whiteRolls(5, 3, 67);
    }

    private static void meeting() {
        BaulkHall hall = Halls.cued();
        Check.same("10: a shot that meets the ball on", hall.shoot(0, 2, 7), 0);
        Check.same("23: half of 1, rounded up, went to the ball 1", Check.cellsOf(hall, 0),
                "[73, 75, 59, 91, 44, 76, 108, 77]");
        BaulkHall two = Halls.cued();
        two.shoot(0, 2, 8);
        // force 2 at 73: 1 goes to the ball 1, which goes to 75; the rest takes the white ball to 74
        Check.same("23: half of 2", Check.cellsOf(two, 0), "[74, 75, 59, 91, 44, 76, 108, 77]");
        BaulkHall three = Halls.cued();
        three.shoot(0, 2, 9);
        // force 3 at 73: 2 go to the ball 1, which goes to 75 and meets the ball 5, and that the ball 7 behind it
        Check.same("23: half of 3", Check.cellsOf(three, 0), "[74, 75, 59, 91, 44, 76, 108, 78]");
        Check.same("29: contacts of it", Halls.cued().contacts(0, 2, 9), 3);
        Check.same("23: behind many contacts", Check.cellsOf(Halls.bare("2,40"), 0),
                "[73, 75, 59, 91, 44, 76, 108, 78]");
        Check.same("23: behind turned directions", Check.cellsOf(Halls.bare("6,40"), 0),
                "[74, 76, 59, 91, 44, 77, 108, 79]");
    }

    private static void foul(String what, String before, String shot, int due) {
        BaulkHall hall = Halls.bare(before);
        int player = hall.turn(0);
        int others = hall.points(0, player == 0);
        Check.same("10: " + what, Halls.play(hall, 0, shot), -due);
        Check.same("26: the turn behind " + what, hall.turn(0), 1 - player);
        Check.same("27: the other one's points behind " + what, hall.points(0, player == 0), others + due);
    }

    private static void fouls() {
        foul("no ball is met", "", "2,8", 4);
        foul("the white ball drops", "", "1,6", 4);
        foul("another ball is met first", "", "3,40", 4);
        foul("the white ball drops behind the ball on", "2,40 3,8", "3,32", 4);
        foul("no ball is met, with the ball 6 on", "2,40 5,40 2,6 1,36 3,35 1,20", "2,33", 6);
        foul("another ball is met first, with the ball 6 on", "2,40 5,40 0,6 5,30 3,35 1,20", "0,36", 6);
        foul("the white ball drops, with the ball 7 on",
                "2,40 5,40 0,12 2,15 1,29 1,22 1,15 5,6 5,6 0,39 1,23", "7,40", 7);
        foul("no ball is met, with a free ball", "7,15", "7,24", 4);
        foul("the ball 2 on is worth 4", "2,40 5,40", "2,6", 4);
        foul("the ball 5 is met first, and the ball on last", "7,23", "2,25", 4);
        Check.same("10: no foul, as the ball on is met first, and the ball 4 last",
                Halls.play(Halls.bare("6,38 0,22 3,16"), 0, "4,24"), 0);
    }

    private static void comingBack() {
        Check.same("23: the white ball comes back to its spot", Halls.bare("1,6").cell(0, 0), 67);
        Check.same("23: the white ball and the ball 1 come back", Check.cellsOf(Halls.bare("2,40 3,8 3,32"), 0),
                "[67, 74, 59, 91, 44, 76, 108, 78]");
        Check.same("23: the balls 2 and 4 come back", Check.cellsOf(Halls.bare("6,40 6,40 1,34"), 0),
                "[89, 77, 59, 91, 44, 78, 108, 79]");
        // the white ball lies on the spot 59 of the ball 2; the cell 0 is a pocket
        Check.same("23: the ball 2 comes back to the cell 1", Check.cellsOf(Halls.bare("6,40 6,40 1,25"), 0),
                "[59, 77, 1, 91, 104, 78, 108, 79]");
        Check.same("23: the balls 2 and 6 come back to the cells 1 and 2, by rising numbers",
                Check.cellsOf(Halls.bare("2,20 3,23 1,24 1,23"), 0), "[59, 77, 1, 108, 10, 76, 2, 79]");
        Check.same("23: the balls 1 and 2 come back, the cell 2 has a ball",
                Check.cellsOf(Halls.bare("1,39 7,33 3,20 0,32 4,39 1,20 0,37 4,26 5,25 1,25"), 0),
                "[14, 1, 3, 2, 74, 106, 63, 59]");
        Check.same("23: balls that came back have no force at first",
                Check.cellsOf(Halls.bare("6,40 6,40 1,34 0,1"), 0), "[73, 77, 59, 91, 44, 78, 108, 79]");
        // the ball 1 dropped in an earlier shot that was no foul
        BaulkHall hall = Halls.bare("2,40 5,40 2,6");
        Check.same("23: a ball that dropped without a foul stays away behind a later foul", hall.cell(0, 1), -1);
        Check.same("24: the ball on behind it", hall.ballOn(0), 2);
    }

    private static void freeBalls() {
        Check.same("25: the ball on is hidden, in no line", Halls.bare("0,6").isFree(0), true);
        Check.same("25: the ball on is seen along the row", Halls.bare("6,6").isFree(0), false);
        Check.same("25: the ball on is seen from beside", Halls.bare("2,8").isFree(0), false);
        Check.same("25: from the spot the ball 1 is seen", Halls.bare("1,6").isFree(0), false);
        for (int direction = 0; direction < Halls.SEEN_IN_DIRECTION.length; direction++) {
            Check.same("25: the ball on is seen in the direction " + direction,
                    Halls.bare(Halls.SEEN_IN_DIRECTION[direction]).isFree(0), false);
        }
        BaulkHall free = Halls.bare("0,1");
        Check.same("25: from the cell 51 the ball 1 is hidden", free.isFree(0), true);
        Check.same("10: with a free ball the ball 2 may be met first", Halls.play(free, 0, "5,30"), 5);
        Check.same("25: behind a shot that is no foul there is none", free.isFree(0), false);
        Check.same("26: the turn stays, as the ball 5 dropped", free.turn(0), 1);
        BaulkHall none = Halls.bare("3,14 4,40");
        Check.same("26: with a free ball no ball dropped", none.turn(0), 0);
        Check.same("27: points of the second", none.points(0, true), 4);
        Check.same("27: points of the first", none.points(0, false), 0);
        Check.same("25: a foul with a free ball can leave none", Halls.bare("7,15 7,24").isFree(0), false);
        Check.same("25: a ball on that is another than 1", Halls.bare("2,40 5,40 2,6").isFree(0), true);
    }

    private static void points() {
        BaulkHall hall = Halls.bare("2,40");
        Check.same("10: the ball 1 drops", Halls.play(hall, 0, "5,40"), 1);
        Check.same("23: it is away", hall.cell(0, 1), -1);
        Check.same("24: the ball on is 2", hall.ballOn(0), 2);
        Check.same("26: the turn stays", hall.turn(0), 1);
        Check.same("27: the points of the second", hall.points(0, true), 1);
        Check.same("27: the points of the first", hall.points(0, false), 0);
        BaulkHall two = Halls.bare("6,40 7,16");
        Check.same("10: the balls 1 and 2 drop", Halls.play(two, 0, "3,28"), 3);
        Check.same("27: 4 points of a foul and 3", two.points(0, false), 7);
        Check.same("24: the ball on is 3", two.ballOn(0), 3);
        BaulkHall other = Halls.bare("2,40 5,40 2,6");
        Check.same("10: the balls 2 and 4 drop, by a free ball", Halls.play(other, 0, "1,36"), 6);
        Check.same("10: the ball 5 drops, the ball 3 is met first", Halls.play(other, 0, "3,35"), 5);
    }

    private static void contacts() {
        int[][] rows = {{0, 40, 0}, {1, 40, 0}, {2, 40, 29}, {3, 40, 5}, {4, 40, 0}, {5, 40, 0}, {6, 40, 26},
            {7, 40, 0}, {2, 7, 1}, {2, 6, 0}, {2, 9, 3}};
        BaulkHall hall = Halls.cued();
        for (int[] row : rows) {
            String shot = "(0, " + row[0] + ", " + row[1] + ")";
            Check.same("29: contacts" + shot, hall.contacts(0, row[0], row[1]), row[2]);
            Check.same("30: contactsByPairs" + shot, hall.contactsByPairs(0, row[0], row[1]), row[2]);
        }
        Check.same("29: nothing was changed by it", Check.answersOf(hall), Check.answersOf(Halls.cued()));
        BaulkHall waits = Halls.cued();
        waits.tear(0);
        Check.same("29: contacts of a frame that waits", waits.contacts(0, 2, 40), 29);
        Check.same("30: contactsByPairs of a frame that waits", waits.contactsByPairs(0, 2, 40), 29);
        BaulkHall two = Halls.cued();
        two.begin(1, 2, 3, true);
        two.shoot(1, 2, 40);
        Check.same("29: the frame beside it has its own balls", two.contacts(0, 2, 40), 29);
        allShotsAlike("");
        for (String shots : new String[] {Halls.WON_BY_FIRST, Halls.WON_BY_SECOND}) {
            for (int end = shots.indexOf(' '); end > 0; end = shots.indexOf(' ', end + 1)) {
                allShotsAlike(shots.substring(0, end));
            }
        }
    }

    private static void allShotsAlike(String shots) {
        for (int direction = 0; direction < 8; direction++) {
            BaulkHall hall = Halls.bare(shots);
            for (int force = 1; force <= 40; force++) {
                Check.same("30: direction " + direction + " and force " + force + " behind " + shots,
                        hall.contactsByPairs(0, direction, force), hall.contacts(0, direction, force));
            }
        }
    }
}
