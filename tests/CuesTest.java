/** Promises 11 to 13 and 33 to 35: cues that are lent, and the forces of shots. Edges are in CuesEdgesTest. */
public final class CuesTest {
    public static void main(String[] args) {
        lend();
        takeBack();
        tip();
        wearOfShots();
        questions();
        Check.finish("CuesTest");
    }

    /** Customer 0 has the cue 2, and customer 1 the cue 3; they play the frame 0. */
    private static BaulkHall playing() {
        BaulkHall hall = new BaulkHall();
        hall.begin(0, 0, 1, true);
        hall.lend(2, 0);
        hall.lend(3, 1);
        return hall;
    }

    private static void lend() {
        BaulkHall hall = new BaulkHall();
        Check.same("11: lend(5, 7)", hall.lend(5, 7), 0);
        Check.same("11: lend(0, 0)", hall.lend(0, 0), 0);
        Check.same("34: cueOf(7)", hall.cueOf(7), 5);
        Check.same("34: cueOf(0)", hall.cueOf(0), 0);
        Check.same("34: cueOf(1)", hall.cueOf(1), -1);
        Check.same("19: a cue that is lent is owed", hall.owes(7), 20);
        Check.same("20: a cue that is lent is owed", hall.owesAnew(7), 20);
        BaulkHall used = Halls.worn(7);
        used.takeBack(2);
        Check.same("11: lend of a worn cue", used.lend(2, 4), 7);
        Check.same("11: the cue has another holder", used.cueOf(4), 2);
        Check.same("11: and not the one before", used.cueOf(0), -1);
    }

    private static void takeBack() {
        int[][] coinsByWear = {{0, 20}, {1, 20}, {4, 20}, {5, 19}, {9, 19}, {10, 18}, {99, 1}, {100, 0}};
        for (int[] row : coinsByWear) {
            BaulkHall hall = Halls.worn(row[0]);
            Check.same("12: takeBack with the wear " + row[0], hall.takeBack(2), row[1]);
            Check.same("19: owes behind it", hall.owes(0), 20 - row[1]);
            Check.same("20: owesAnew behind it", hall.owesAnew(0), 20 - row[1]);
            Check.same("12: the cue keeps its wear", hall.wear(2), row[0]);
            Check.same("12: nobody has it", hall.cueOf(0), -1);
        }
        BaulkHall again = Halls.worn(8);
        again.takeBack(2);
        again.lend(2, 1);
        Check.same("12: wear that came ahead of lending does not count", again.takeBack(2), 20);
        again.lend(2, 0);
        Halls.playOneByTheFirst(again, 10);
        Check.same("12: 3 of 11 wear", again.takeBack(2), 20);
        again.lend(2, 0);
        Halls.playOneByTheFirst(again, 16);
        Check.same("12: 5 wear from 11 on", again.takeBack(2), 19);
        Check.same("19: what was kept of several loans", again.owes(0), 2);
        Check.same("20: what was kept of several loans", again.owesAnew(0), 2);
    }

    private static void tip() {
        BaulkHall hall = Halls.worn(6);
        hall.takeBack(2);
        Check.same("13: tip of a worn cue", hall.tip(2), 6);
        Check.same("13: its wear", hall.wear(2), 0);
        Check.same("13: tip of a new one", hall.tip(2), 0);
        Check.same("13: what was kept stays kept", hall.owes(0), 1);
        Check.same("20: what was kept stays kept", hall.owesAnew(0), 1);
    }

    private static void wearOfShots() {
        int[][] wearByPower = {{1, 1}, {3, 1}, {4, 2}, {7, 2}, {8, 3}, {39, 10}, {40, 11}};
        for (int[] row : wearByPower) {
            BaulkHall hall = playing();
            hall.shoot(0, 4, row[0]);
            Check.same("33: the wear of a shot with the power " + row[0], hall.wear(2), row[1]);
            Check.same("33: the other cue", hall.wear(3), 0);
        }
        BaulkHall much = Halls.worn(95);
        Halls.playOneByTheFirst(much, 40);
        Check.same("33: the wear goes up to 100", much.wear(2), 100);
        Halls.playOneByTheFirst(much, 1);
        Check.same("33: and no further", much.wear(2), 100);
        BaulkHall bare = new BaulkHall();
        bare.begin(0, 0, 1, true);
        bare.lend(2, 5);
        bare.shoot(0, 4, 40);
        Check.same("33: a shot without a cue wears none off", bare.wear(2), 0);
        forceIsThatAheadOfTheShot();
        wearOfFairShots();
    }

    /** Wear comes by the power of each shot, be it a foul or not, and by the one that ends the frame, too. */
    private static void wearOfFairShots() {
        BaulkHall fair = playing();
        Check.same("10: no foul, and no ball dropped", fair.shoot(0, 2, 7), 0);
        Check.same("33: the wear of a shot that is no foul", fair.wear(2), 2);
        Check.same("33: the cue of the other one, ahead of his shot", fair.wear(3), 0);
        Check.same("10: a foul of the other one", fair.shoot(0, 0, 1), -4);
        Check.same("33: the wear of a foul", fair.wear(3), 1);
        Check.same("33: the cue of who had the turn before", fair.wear(2), 2);
        String shots = Halls.WON_BY_FIRST;
        BaulkHall ended = Halls.bare(shots.substring(0, shots.lastIndexOf(' ')));
        ended.lend(4, ended.turn(0));
        // the last shot was made with the power 40, and so the force 30, without a cue
        Check.same("10: the last shot of the frame", ended.shoot(0, 7, 30), 7);
        Check.same("22: the frame is over", ended.state(0), 2);
        Check.same("33: the wear of the shot that ended it", ended.wear(4), 8);
    }

    private static void forceIsThatAheadOfTheShot() {
        BaulkHall hall = Halls.worn(0);
        hall.shoot(0, 4, 3);
        Check.same("10: with a new cue the power 3 is the force 3", hall.cell(0, 0), 115);
        BaulkHall bare = new BaulkHall();
        bare.begin(0, 0, 1, true);
        bare.shoot(0, 4, 3);
        Check.same("10: without a cue the power 3 is the force 2", bare.cell(0, 0), 99);
        BaulkHall first = playing();
        first.shoot(0, 2, 7);
        Check.same("10: the wear of a shot lessens the force of later ones", first.cell(0, 1), 75);
    }

    private static void questions() {
        int[][] bare = {{1, 1}, {2, 1}, {3, 2}, {4, 3}, {5, 3}, {39, 29}, {40, 30}};
        for (int[] row : bare) {
            Check.same("35: force(0, " + row[0] + ") without a cue", new BaulkHall().force(0, row[0]), row[1]);
        }
        int[][] forces = {{0, 1, 1}, {0, 40, 40}, {1, 40, 39}, {1, 1, 1}, {5, 40, 39}, {6, 40, 38}, {50, 13, 9},
            {100, 40, 20}, {100, 1, 1}, {100, 3, 1}, {100, 5, 2}, {99, 40, 20}};
        for (int[] row : forces) {
            Check.same("35: force(0, " + row[1] + ") with the wear " + row[0],
                    Halls.worn(row[0]).force(0, row[1]), row[2]);
        }
    }
}
