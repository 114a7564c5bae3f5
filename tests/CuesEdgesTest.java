import java.util.function.Supplier;

/** The boundary cases of the promises 11 to 13 and 33 to 35: cues, their wear, and the forces of shots. */
public final class CuesEdgesTest {
    private static final Supplier<BaulkHall> FRESH = BaulkHall::new;
    private static final Supplier<BaulkHall> BUSY = Halls::busy;
    private static final Supplier<BaulkHall> ALL_LENT = Halls::allLent;

    public static void main(String[] args) {
        Check.promise(11, "lend", CuesEdgesTest::promise11Lend);
        Check.promise(12, "takeBack", CuesEdgesTest::promise12TakeBack);
        Check.promise(13, "tip", CuesEdgesTest::promise13Tip);
        Check.promise(33, "wear", CuesEdgesTest::promise33Wear);
        Check.promise(34, "cueOf", CuesEdgesTest::promise34CueOf);
        Check.promise(35, "force", CuesEdgesTest::promise35Force);
        Check.finish("CuesEdgesTest");
    }

    /** The cue 2 lies in its place with a wear. */
    private static BaulkHall givenBack(int wear) {
        BaulkHall hall = Halls.worn(wear);
        hall.takeBack(2);
        return hall;
    }

    private static void promise11Lend() {
        Check.range("11: the cue", FRESH, 0, 5, (h, cue) -> h.lend(cue, 3), Check.INDEX);
        Check.range("11: the customer", FRESH, 0, 7, (h, customer) -> h.lend(2, customer), Check.INDEX);
        Check.refusesBeyond("11: the cue in a busy hall", BUSY, 0, 5, (h, cue) -> h.lend(cue, 5), Check.INDEX);
        Check.refusesBeyond("11: the customer in a busy hall", BUSY, 0, 7, (h, c) -> h.lend(1, c), Check.INDEX);
        Check.refuses("11: neither such a cue nor such a customer", FRESH, h -> h.lend(6, 8), Check.INDEX);
        Check.refuses("11: lent, and no such customer", BUSY, h -> h.lend(0, 8), Check.INDEX);
        Check.refuses("11: who has one, and no such cue", BUSY, h -> h.lend(6, 4), Check.INDEX);
        Check.refuses("11: who has one, and no such cue", BUSY, h -> h.lend(-1, 4), Check.INDEX);
        Check.refuses("11: lent to another one", BUSY, h -> h.lend(0, 5), Check.STATE);
        Check.refuses("11: lent to the same", BUSY, h -> h.lend(0, 4), Check.STATE);
        Check.refuses("11: who has another one", BUSY, h -> h.lend(1, 4), Check.STATE);
        for (int i = 0; i < 6; i++) {
            int cue = i;
            for (int j = 0; j < 8; j++) {
                int customer = j;
                Check.refuses("11: all are lent, lend(" + cue + ", " + customer + ")", ALL_LENT,
                        h -> h.lend(cue, customer), Check.STATE);
            }
        }
        for (int wear : new int[] {0, 1, 99, 100}) {
            BaulkHall hall = givenBack(wear);
            int owed = hall.owes(7);
            Check.same("11: the wear " + wear, hall.lend(2, 7), wear);
            Check.same("19: 20 coins more", hall.owes(7), owed + 20);
            Check.same("33: lending is no wear", hall.wear(2), wear);
        }
        BaulkHall late = Halls.atMinute(10000);
        Check.same("11: at the last minute", late.lend(5, 7), 0);
    }

    private static void promise12TakeBack() {
        Check.range("12: the cue", ALL_LENT, 0, 5, (h, cue) -> h.takeBack(cue), Check.INDEX);
        Check.refusesBeyond("12: the cue in a busy hall", BUSY, 0, 5, (h, cue) -> h.takeBack(cue), Check.INDEX);
        int[][] coinsByWear = {{0, 20}, {1, 20}, {4, 20}, {5, 19}, {6, 19}, {9, 19}, {10, 18}, {14, 18}, {15, 17},
            {94, 2}, {95, 1}, {99, 1}, {100, 0}};
        for (int[] row : coinsByWear) {
            BaulkHall hall = Halls.worn(row[0]);
            Check.same("12: coins behind the wear " + row[0], hall.takeBack(2), row[1]);
            Check.same("19: what was kept", hall.owes(0), 20 - row[1]);
            Check.same("20: what was kept", hall.owesAnew(0), 20 - row[1]);
            Check.same("12: it stays worn", hall.wear(2), row[0]);
        }
        // what counts is the wear that came since it was lent
        int[][] coinsByWearBefore = {{1, 5, 20}, {1, 6, 19}, {4, 8, 20}, {4, 9, 19}, {95, 100, 19}, {96, 100, 20},
            {100, 100, 20}};
        for (int[] row : coinsByWearBefore) {
            BaulkHall hall = givenBack(row[0]);
            hall.lend(2, 0);
            for (int j = 0; j < Halls.MOST_STEPS && hall.wear(2) < row[1]; j++) {
                Halls.playOneByTheFirst(hall, 1);
            }
            int owed = hall.owes(0);
            Check.same("12: coins from the wear " + row[0] + " to " + row[1], hall.takeBack(2), row[2]);
            Check.same("19: as many coins less", hall.owes(0), owed - row[2]);
            Check.same("20: as many coins less", hall.owesAnew(0), owed - row[2]);
        }
        BaulkHall full = Halls.worn(100);
        Halls.playOneByTheFirst(full, 40);
        Check.same("12: no coins behind more shots than the wear can tell", full.takeBack(2), 0);
        for (int i = 0; i < 6; i++) {
            int cue = i;
            Check.refuses("12: never lent, " + cue, FRESH, h -> h.takeBack(cue), Check.STATE);
            Supplier<BaulkHall> back = () -> {
                BaulkHall hall = Halls.allLent();
                hall.takeBack(cue);
                return hall;
            };
            Check.refuses("12: taken back twice, " + cue, back, h -> h.takeBack(cue), Check.STATE);
            Check.same("12: the customer may have another one", back.get().lend(cue, cue), 0);
        }
        Check.refuses("12: not lent in a busy hall", BUSY, h -> h.takeBack(5), Check.STATE);
    }

    private static void promise13Tip() {
        Check.range("13: the cue", FRESH, 0, 5, (h, cue) -> h.tip(cue), Check.INDEX);
        Check.refusesBeyond("13: the cue in a busy hall", BUSY, 0, 5, (h, cue) -> h.tip(cue), Check.INDEX);
        for (int i = 0; i < 6; i++) {
            int cue = i;
            Check.refuses("13: lent, " + cue, ALL_LENT, h -> h.tip(cue), Check.STATE);
        }
        Check.refuses("13: lent and worn", () -> Halls.worn(100), h -> h.tip(2), Check.STATE);
        for (int wear : new int[] {0, 1, 99, 100}) {
            BaulkHall hall = givenBack(wear);
            int owed = hall.owes(0);
            Check.same("13: the wear before, " + wear, hall.tip(2), wear);
            Check.same("13: no wear behind it", hall.wear(2), 0);
            Check.same("13: no wear before a second tip", hall.tip(2), 0);
            Check.same("19: a tip costs nothing", hall.owes(0), owed);
            Check.same("20: a tip costs nothing", hall.owesAnew(0), owed);
            Check.same("11: it is lent as a new one", hall.lend(2, 0), 0);
            Check.same("35: and is as forceful", hall.force(0, 40), 40);
        }
        BaulkHall busy = Halls.busy();
        Check.same("13: a worn cue in a busy hall", busy.tip(5), 2);
        Check.same("33: the cue that is lent stays worn", busy.wear(0) > 0, true);
    }

    private static void promise33Wear() {
        Check.range("33: the cue", BUSY, 0, 5, (h, cue) -> h.wear(cue), Check.INDEX);
        int[][] wearByPower = {{1, 1}, {3, 1}, {4, 2}, {7, 2}, {8, 3}, {11, 3}, {12, 4}, {36, 10}, {39, 10}, {40, 11}};
        for (int[] row : wearByPower) {
            BaulkHall hall = Halls.worn(0);
            hall.shoot(0, 4, row[0]);
            Check.same("33: behind a shot with the power " + row[0], hall.wear(2), row[1]);
        }
        int[][] upTo100 = {{88, 40, 99}, {89, 40, 100}, {90, 40, 100}, {98, 1, 99}, {99, 1, 100}, {99, 40, 100},
            {100, 1, 100}, {100, 40, 100}};
        for (int[] row : upTo100) {
            BaulkHall hall = Halls.worn(row[0]);
            Halls.playOneByTheFirst(hall, row[1]);
            Check.same("33: from " + row[0] + " by the power " + row[1], hall.wear(2), row[2]);
            Check.same("33: another cue", hall.wear(3), 0);
        }
        BaulkHall refused = Halls.worn(0);
        Check.outcome(refused, h -> h.shoot(0, 8, 40));
        Check.outcome(refused, h -> h.shoot(0, 4, 41));
        Check.same("33: refused shots are no wear", refused.wear(2), 0);
        BaulkHall other = Halls.worn(0);
        other.shoot(0, 4, 40);
        other.shoot(0, 0, 40);
        Check.same("33: nor are the other one's, who has no cue", other.wear(2), 11);
    }

    private static void promise34CueOf() {
        Check.range("34: the customer", BUSY, 0, 7, (h, customer) -> h.cueOf(customer), Check.INDEX);
        BaulkHall all = Halls.allLent();
        for (int customer = 0; customer < 8; customer++) {
            Check.same("34: with all cues lent", all.cueOf(customer), customer < 6 ? customer : -1);
            Check.same("34: with none lent", new BaulkHall().cueOf(customer), -1);
        }
        for (int cue : new int[] {0, 5}) {
            BaulkHall hall = new BaulkHall();
            hall.lend(cue, 7);
            Check.same("34: the cue " + cue, hall.cueOf(7), cue);
            hall.takeBack(cue);
            Check.same("34: none, as it was given back", hall.cueOf(7), -1);
        }
    }

    private static void promise35Force() {
        Check.range("35: the customer", BUSY, 0, 7, (h, customer) -> h.force(customer, 20), Check.INDEX);
        Check.range("35: the power without a cue", BUSY, 1, 40, (h, power) -> h.force(0, power), Check.ARGUMENT);
        Check.range("35: the power with a cue", BUSY, 1, 40, (h, power) -> h.force(4, power), Check.ARGUMENT);
        Check.refuses("35: neither such a customer nor such a power", FRESH, h -> h.force(8, 0), Check.INDEX);
        Check.refuses("35: neither such a customer nor such a power", BUSY, h -> h.force(-1, 41), Check.INDEX);
        int[][] bare = {{1, 1}, {2, 1}, {3, 2}, {4, 3}, {5, 3}, {7, 5}, {8, 6}, {38, 28}, {39, 29}, {40, 30}};
        for (int[] row : bare) {
            Check.same("35: without a cue, " + row[0], new BaulkHall().force(7, row[0]), row[1]);
        }
        // wear, power, force
        int[][] forces = {{0, 1, 1}, {0, 2, 2}, {0, 40, 40}, {1, 1, 1}, {1, 2, 1}, {1, 40, 39}, {4, 40, 39},
            {5, 40, 39}, {6, 40, 38}, {99, 1, 1}, {99, 2, 1}, {99, 40, 20}, {100, 1, 1}, {100, 2, 1}, {100, 3, 1},
            {100, 4, 2}, {100, 39, 19}, {100, 40, 20}};
        for (int[] row : forces) {
            BaulkHall hall = Halls.worn(row[0]);
            Check.same("35: with the wear " + row[0] + ", " + row[1], hall.force(0, row[1]), row[2]);
        }
        BaulkHall worn = Halls.worn(100);
        int before = worn.force(0, 39);
        Halls.playOneByTheFirst(worn, 40);
        Check.same("35: no lesser force than with the wear 100", worn.force(0, 39), before);
        worn.takeBack(2);
        Check.same("35: without a cue behind it", worn.force(0, 39), 29);
    }
}
