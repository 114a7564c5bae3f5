import java.util.function.Supplier;

/** The boundary cases of the promises 1 to 7 and 14 to 20: tables, their clocks and bills. */
public final class TablesEdgesTest {
    private static final Supplier<BaulkHall> FRESH = BaulkHall::new;
    private static final Supplier<BaulkHall> BUSY = Halls::busy;
    private static final Supplier<BaulkHall> ALL_RENTED = Halls::allRented;
    private static final Supplier<BaulkHall> ALL_CLOSED = Halls::allClosed;

    public static void main(String[] args) {
        Check.promise(1, "a new object", TablesEdgesTest::promise01NewObject);
        Check.promise(2, "setPrice", TablesEdgesTest::promise02SetPrice);
        Check.promise(3, "rent", TablesEdgesTest::promise03Rent);
        Check.promise(4, "end", TablesEdgesTest::promise04End);
        Check.promise(5, "tear", TablesEdgesTest::promise05Tear);
        Check.promise(6, "mend", TablesEdgesTest::promise06Mend);
        Check.promise(7, "pass", TablesEdgesTest::promise07Pass);
        Check.promise(14, "minute", TablesEdgesTest::promise14Minute);
        Check.promise(15, "isOpen", TablesEdgesTest::promise15IsOpen);
        Check.promise(16, "renter", TablesEdgesTest::promise16Renter);
        Check.promise(17, "clock", TablesEdgesTest::promise17Clock);
        Check.promise(18, "frameOn", TablesEdgesTest::promise18FrameOn);
        Check.promise(19, "owes", TablesEdgesTest::promise19Owes);
        Check.promise(20, "owesAnew", TablesEdgesTest::promise20OwesAnew);
        Check.finish("TablesEdgesTest");
    }

    private static void promise01NewObject() {
        BaulkHall hall = new BaulkHall();
        Check.same("1: the minute", hall.minute(), 0);
        Check.same("1: frames", hall.frames(), 0);
        for (int table = 0; table < 4; table++) {
            Check.same("1: isOpen(" + table + ")", hall.isOpen(table), true);
            Check.same("1: renter(" + table + ")", hall.renter(table), -1);
            Check.same("1: clock(" + table + ")", hall.clock(table), 0);
            Check.same("1: frameOn(" + table + ")", hall.frameOn(table), -1);
        }
        for (int customer = 0; customer < 8; customer++) {
            Check.same("1: owes(" + customer + ")", hall.owes(customer), 0);
            Check.same("1: owesAnew(" + customer + ")", hall.owesAnew(customer), 0);
            Check.same("1: wins(" + customer + ")", hall.wins(customer), 0);
            Check.same("1: rank(" + customer + ")", hall.rank(customer), 0);
            Check.same("1: cueOf(" + customer + ")", hall.cueOf(customer), -1);
        }
        for (int cue = 0; cue < 6; cue++) {
            Check.same("1: wear(" + cue + ")", hall.wear(cue), 0);
        }
        Check.same("1: the price at first", hall.setPrice(1), 6);
        for (int i = 0; i < 4; i++) {
            int table = i;
            Check.refuses("1: nothing to end on " + table, FRESH, h -> h.end(table), Check.STATE);
            Check.refuses("1: nothing to mend on " + table, FRESH, h -> h.mend(table), Check.STATE);
            Check.refuses("1: nothing to resume on " + table, FRESH, h -> h.resume(0, table), Check.INDEX);
        }
        for (int i = 0; i < 6; i++) {
            int cue = i;
            Check.refuses("1: nothing to take back as " + cue, FRESH, h -> h.takeBack(cue), Check.STATE);
        }
        Check.refuses("1: no frame to shoot in", FRESH, h -> h.shoot(0, 0, 1), Check.INDEX);
    }

    private static void promise02SetPrice() {
        Check.range("2: the price", FRESH, 0, 50, (h, coins) -> h.setPrice(coins), Check.ARGUMENT);
        Check.range("2: the price of a busy hall", BUSY, 0, 50, (h, coins) -> h.setPrice(coins), Check.ARGUMENT);
        BaulkHall hall = new BaulkHall();
        Check.same("2: the price ahead of the highest", hall.setPrice(50), 6);
        Check.same("2: the highest price", hall.setPrice(50), 50);
        Check.same("2: the highest price, set twice", hall.setPrice(0), 50);
        Check.same("2: the lowest price", hall.setPrice(0), 0);
        Check.outcome(hall, h -> h.setPrice(51));
        Check.outcome(hall, h -> h.setPrice(-1));
        Check.same("2: the price behind refused ones", hall.setPrice(1), 0);
    }

    private static void promise03Rent() {
        Check.range("3: the table", FRESH, 0, 3, (h, table) -> h.rent(table, 5), Check.INDEX);
        Check.range("3: the customer", FRESH, 0, 7, (h, customer) -> h.rent(1, customer), Check.INDEX);
        Check.refusesBeyond("3: the table of a busy hall", BUSY, 0, 3, (h, table) -> h.rent(table, 5), Check.INDEX);
        Check.refusesBeyond("3: the customer of a busy hall", BUSY, 0, 7, (h, c) -> h.rent(3, c), Check.INDEX);
        BaulkHall hall = new BaulkHall();
        Check.same("3: one is rented", hall.rent(3, 7), 1);
        Check.same("3: two are rented", hall.rent(0, 0), 2);
        Check.same("3: three are rented", hall.rent(2, 6), 3);
        Check.same("3: all four are rented", hall.rent(1, 1), 4);
        for (int i = 0; i < 8; i++) {
            int customer = i;
            for (int j = 0; j < 4; j++) {
                int table = j;
                String call = "rent(" + table + ", " + customer + ")";
                Check.refuses("3: all are rented, " + call, ALL_RENTED, h -> h.rent(table, customer), Check.STATE);
                Check.refuses("3: all are closed, " + call, ALL_CLOSED, h -> h.rent(table, customer), Check.STATE);
            }
        }
        Check.refuses("3: closed", BUSY, h -> h.rent(1, 5), Check.STATE);
        Check.refuses("3: rented by another one", BUSY, h -> h.rent(2, 5), Check.STATE);
        Check.refuses("3: rented by the same", BUSY, h -> h.rent(2, 4), Check.STATE);
        Check.refuses("3: who rents another one", BUSY, h -> h.rent(3, 4), Check.STATE);
        Check.refuses("3: closed, and no such customer", BUSY, h -> h.rent(1, 8), Check.INDEX);
        Check.refuses("3: rented, and no such customer", BUSY, h -> h.rent(2, -1), Check.INDEX);
        Check.refuses("3: who rents one, and no such table", BUSY, h -> h.rent(4, 4), Check.INDEX);
        Check.refuses("3: who rents one, and no such table", BUSY, h -> h.rent(-1, 4), Check.INDEX);
        Check.refuses("3: neither such a table nor such a customer", FRESH, h -> h.rent(4, 8), Check.INDEX);
        BaulkHall framed = Halls.allRented();
        framed.end(3);
        framed.begin(0, 0, 4, false);
        framed.begin(1, 5, 6, true);
        Check.same("3: rented ones with frames on them count, too", framed.rent(3, 7), 4);
        rentAgain();
    }

    private static void rentAgain() {
        BaulkHall hall = Halls.atMinute(10000);
        hall.end(0);
        Check.same("3: at the last minute", hall.rent(0, 0), 1);
        Check.same("3: and its bill", hall.end(0), 0);
        BaulkHall torn = Halls.allRented();
        torn.tear(2);
        Check.same("3: whose table was torn rents no other one", torn.renter(2), -1);
        torn.mend(2);
        Check.same("3: a mended table for him", torn.rent(2, 2), 4);
        BaulkHall ended = Halls.allRented();
        ended.end(0);
        ended.end(3);
        Check.same("3: whose renting ended, another table", ended.rent(3, 0), 3);
    }

    /** The bill behind so many minutes, at a price that was set just ahead of it. */
    private static int billAfter(int minutes, int coins) {
        BaulkHall hall = Halls.atMinute(minutes);
        hall.setPrice(coins);
        return hall.end(0);
    }

    private static void promise04End() {
        Check.range("4: the table", ALL_RENTED, 0, 3, (h, table) -> h.end(table), Check.INDEX);
        Check.refusesBeyond("4: the table of a busy hall", BUSY, 0, 3, (h, table) -> h.end(table), Check.INDEX);
        int[][] tensByMinutes = {{0, 0}, {1, 1}, {9, 1}, {10, 1}, {11, 2}, {19, 2}, {20, 2}, {21, 3}, {99, 10},
            {100, 10}, {101, 11}, {200, 20}, {201, 21}, {9990, 999}, {9991, 1000}, {10000, 1000}};
        for (int[] row : tensByMinutes) {
            for (int coins : new int[] {0, 1, 6, 50}) {
                Check.same("4: the bill of " + row[0] + " minutes at " + coins,
                        billAfter(row[0], coins), row[1] * coins);
            }
        }
        Check.refuses("4: not rented", BUSY, h -> h.end(3), Check.STATE);
        Check.refuses("4: closed", BUSY, h -> h.end(1), Check.STATE);
        for (int i = 0; i < 4; i++) {
            int table = i;
            Supplier<BaulkHall> ended = () -> {
                BaulkHall hall = Halls.allRented();
                hall.pass(10);
                hall.end(table);
                return hall;
            };
            Check.refuses("4: ended twice, " + table, ended, h -> h.end(table), Check.STATE);
        }
        BaulkHall hall = Halls.busy();
        Check.same("4: the bill of the table with a frame that is not of the league", hall.end(2), 36);
        Check.same("4: its frame waits", hall.state(2), 1);
        Check.same("4: the table has none", hall.frameOn(2), -1);
        Check.same("4: the bill of the table with one of the league", hall.end(0), 18);
        Check.same("4: its frame does not wait", hall.state(3), 0);
        Check.same("4: it is there", hall.frameOn(0), 3);
        Check.same("4: nobody rents that", hall.renter(0), -1);
        Check.same("4: it is open", hall.isOpen(0), true);
    }

    private static void promise05Tear() {
        Check.range("5: the table", FRESH, 0, 3, (h, table) -> h.tear(table), Check.INDEX);
        Check.refusesBeyond("5: the table of a busy hall", BUSY, 0, 3, (h, table) -> h.tear(table), Check.INDEX);
        for (int i = 0; i < 4; i++) {
            int table = i;
            Check.same("5: not rented, " + table, new BaulkHall().tear(table), 0);
            Check.same("5: rented for no minute, " + table, Halls.allRented().tear(table), 0);
            Check.refuses("5: closed, " + table, ALL_CLOSED, h -> h.tear(table), Check.STATE);
        }
        Check.refuses("5: closed among open ones", BUSY, h -> h.tear(1), Check.STATE);
        BaulkHall late = Halls.atMinute(10000);
        late.setPrice(50);
        Check.same("5: the greatest bill", late.tear(0), 50000);
        BaulkHall hall = Halls.busy();
        hall.setPrice(0);
        Check.same("5: a bill at no price", hall.tear(0), 0);
        Check.same("5: its frame of the league waits", hall.state(3), 1);
        hall.setPrice(1);
        Check.same("5: a bill at the price 1", hall.tear(2), 4);
        Check.same("5: its frame waits", hall.state(2), 1);
        Check.same("5: a table that is open and not rented", hall.tear(3), 0);
        Check.same("5: a frame that is over stays so", hall.state(0), 2);
        Check.same("5: a frame that waited waits", hall.state(1), 1);
        for (int table = 0; table < 4; table++) {
            Check.same("5: none is open, " + table, hall.isOpen(table), false);
            Check.same("5: none is rented, " + table, hall.renter(table), -1);
            Check.same("5: no clock has counted, " + table, hall.clock(table), 0);
            Check.same("5: none has a frame, " + table, hall.frameOn(table), -1);
        }
    }

    private static void promise06Mend() {
        Check.range("6: the table", ALL_CLOSED, 0, 3, (h, table) -> h.mend(table), Check.INDEX);
        Check.refusesBeyond("6: the table of a busy hall", BUSY, 0, 3, (h, table) -> h.mend(table), Check.INDEX);
        BaulkHall hall = Halls.allClosed();
        Check.same("6: one is open", hall.mend(3), 1);
        Check.same("6: two are open", hall.mend(0), 2);
        Check.same("6: three are open", hall.mend(2), 3);
        Check.same("6: all four are open", hall.mend(1), 4);
        BaulkHall rented = Halls.allRented();
        rented.begin(0, 0, 4, false);
        rented.begin(1, 5, 6, true);
        rented.tear(3);
        Check.same("6: rented ones count as open, those with frames, too", rented.mend(3), 4);
        Check.refuses("6: open, not rented", BUSY, h -> h.mend(3), Check.STATE);
        Check.refuses("6: open, rented", BUSY, h -> h.mend(0), Check.STATE);
        Supplier<BaulkHall> mended = () -> {
            BaulkHall twice = Halls.allClosed();
            twice.mend(2);
            return twice;
        };
        Check.refuses("6: mended twice", mended, h -> h.mend(2), Check.STATE);
        BaulkHall framed = Halls.busy();
        framed.tear(0);
        framed.mend(0);
        Check.same("6: a new cloth brings no frame back", framed.frameOn(0), -1);
        Check.same("6: nor its renter", framed.renter(0), -1);
    }

    private static void promise07Pass() {
        Check.range("7: the minutes", FRESH, 1, 200, (h, minutes) -> h.pass(minutes), Check.ARGUMENT);
        Check.refusesBeyond("7: the minutes of a busy hall", BUSY, 1, 200, (h, m) -> h.pass(m), Check.ARGUMENT);
        Check.refusesBeyond("7: the minutes at 10000", () -> Halls.atMinute(10000), 1, 200,
                (h, minutes) -> h.pass(minutes), Check.ARGUMENT);
        Check.same("7: no table is rented", new BaulkHall().pass(200), 0);
        Check.same("7: all are closed", Halls.allClosed().pass(200), 0);
        Check.same("7: all are rented", Halls.allRented().pass(200), 800);
        Check.same("7: all are rented, one minute", Halls.allRented().pass(1), 4);
        BaulkHall league = Halls.allRented();
        for (int table = 0; table < 4; table++) {
            league.begin(table, 6, 7, true);
        }
        Check.same("7: frames of the league on all", league.pass(200), 0);
        Check.same("14: the minute goes on", league.minute(), 200);
        BaulkHall framed = Halls.allRented();
        for (int table = 0; table < 4; table++) {
            framed.begin(table, table, 7, false);
        }
        Check.same("7: other frames on all", framed.pass(200), 800);
        Check.same("7: a busy hall", Halls.busy().pass(3), 3);
        Check.same("7: from 9800 to 10000", Halls.atMinute(9800).pass(200), 200);
        Check.same("7: from 9999 to 10000", Halls.atMinute(9999).pass(1), 1);
        Check.refuses("7: from 9801 to 10001", () -> Halls.atMinute(9801), h -> h.pass(200), Check.STATE);
        Check.refuses("7: from 9999 to 10001", () -> Halls.atMinute(9999), h -> h.pass(2), Check.STATE);
        Check.refuses("7: from 10000 to 10001", () -> Halls.atMinute(10000), h -> h.pass(1), Check.STATE);
        Check.refuses("7: from 10000 to 10200", () -> Halls.atMinute(10000), h -> h.pass(200), Check.STATE);
    }

    private static void promise14Minute() {
        for (int minute : new int[] {0, 1, 200, 201, 9999, 10000}) {
            Check.same("14: the minute " + minute, Halls.atMinute(minute).minute(), minute);
        }
        BaulkHall hall = Halls.atMinute(9999);
        Check.outcome(hall, h -> h.pass(2));
        Check.same("14: the minute behind a refused pass", hall.minute(), 9999);
    }

    private static void promise15IsOpen() {
        Check.range("15: the table", BUSY, 0, 3, (h, table) -> h.isOpen(table), Check.INDEX);
        for (int table = 0; table < 4; table++) {
            BaulkHall hall = new BaulkHall();
            hall.tear(table);
            for (int other = 0; other < 4; other++) {
                Check.same("15: isOpen(" + other + ") with " + table + " closed", hall.isOpen(other), other != table);
            }
        }
        Check.same("15: a rented table is open", Halls.allRented().isOpen(3), true);
    }

    private static void promise16Renter() {
        Check.range("16: the table", BUSY, 0, 3, (h, table) -> h.renter(table), Check.INDEX);
        for (int customer = 0; customer < 8; customer++) {
            for (int table : new int[] {0, 3}) {
                BaulkHall hall = new BaulkHall();
                hall.rent(table, customer);
                Check.same("16: the renter of " + table, hall.renter(table), customer);
                Check.same("16: the renter of the other one", hall.renter(3 - table), -1);
            }
        }
    }

    private static void promise17Clock() {
        Check.range("17: the table", BUSY, 0, 3, (h, table) -> h.clock(table), Check.INDEX);
        Check.same("17: just rented", Halls.atMinute(0).clock(0), 0);
        Check.same("17: a minute later", Halls.atMinute(1).clock(0), 1);
        Check.same("17: the greatest clock", Halls.atMinute(10000).clock(0), 10000);
        Check.same("17: not rented while minutes go by", Halls.atMinute(10000).clock(3), 0);
        BaulkHall hall = Halls.atMinute(17);
        hall.end(0);
        Check.same("17: behind renting", hall.clock(0), 0);
        hall.pass(5);
        Check.same("17: minutes without a renter", hall.clock(0), 0);
        hall.rent(0, 0);
        Check.same("17: rented again", hall.clock(0), 0);
        hall.pass(1);
        hall.begin(0, 5, 6, true);
        hall.pass(200);
        Check.same("17: it stands still below the league", hall.clock(0), 1);
        Halls.play(hall, 0, Halls.WON_BY_FIRST);
        hall.pass(1);
        Check.same("17: it goes on when that frame is over", hall.clock(0), 2);
    }

    private static void promise18FrameOn() {
        Check.range("18: the table", BUSY, 0, 3, (h, table) -> h.frameOn(table), Check.INDEX);
        BaulkHall hall = Halls.twentyWaiting();
        Check.same("18: none, as all wait", hall.frameOn(0), -1);
        hall.resume(0, 3);
        hall.resume(19, 0);
        Check.same("18: the first frame", hall.frameOn(3), 0);
        Check.same("18: the last frame", hall.frameOn(0), 19);
        Check.same("18: a table without one", hall.frameOn(1), -1);
        Halls.play(hall, 19, Halls.WON_BY_FIRST);
        Check.same("18: none, as the frame is over", hall.frameOn(0), -1);
    }

    private static void owed(String what, BaulkHall hall, int customer, int due) {
        Check.same("19: owes, " + what, hall.owes(customer), due);
        Check.same("20: owesAnew, " + what, hall.owesAnew(customer), due);
    }

    private static void promise19Owes() {
        Check.range("19: the customer", BUSY, 0, 7, (h, customer) -> h.owes(customer), Check.INDEX);
        BaulkHall hall = Halls.atMinute(10000);
        owed("the table is still rented", hall, 0, 0);
        hall.setPrice(50);
        hall.end(0);
        owed("the greatest bill", hall, 0, 50000);
        hall.lend(5, 0);
        owed("and a cue", hall, 0, 50020);
        hall.takeBack(5);
        owed("and no cue", hall, 0, 50000);
        owed("by the last customer", hall, 7, 0);
        BaulkHall lent = Halls.allLent();
        for (int customer = 0; customer < 8; customer++) {
            owed("with all cues lent", lent, customer, customer < 6 ? 20 : 0);
        }
        int[][] keptByWear = {{0, 0}, {4, 0}, {5, 1}, {99, 19}, {100, 20}};
        for (int[] row : keptByWear) {
            BaulkHall worn = Halls.worn(row[0]);
            owed("with a cue that is worn " + row[0], worn, 0, 20);
            worn.takeBack(2);
            owed("behind a cue that was worn " + row[0], worn, 0, row[1]);
        }
    }

    private static void leagueElsewhere() {
        BaulkHall beside = Halls.allRented();
        beside.begin(1, 4, 5, true);
        beside.begin(2, 2, 6, false);
        beside.pass(50);
        for (int table = 0; table < 4; table++) {
            beside.end(table);
            owed("the league on the table 1, another frame on 2, " + table, beside, table, table == 1 ? 0 : 30);
        }
        beside.tear(1);
        beside.mend(1);
        beside.rent(0, 7);
        beside.pass(10);
        beside.rent(1, 6);
        beside.resume(0, 0);
        beside.pass(10);
        beside.tear(0);
        beside.pass(10);
        beside.end(1);
        owed("the league came in the midst", beside, 7, 6);
        owed("the league was there ahead of it", beside, 6, 12);
    }

    private static void promise20OwesAnew() {
        Check.range("20: the customer", BUSY, 0, 7, (h, customer) -> h.owesAnew(customer), Check.INDEX);
        leagueBeforeAndBehind();
        BaulkHall rentals = new BaulkHall();
        for (int i = 0; i < 254; i++) {
            rentals.rent(i % 4, i % 8);
            rentals.end(i % 4);
        }
        rentals.rent(3, 7);
        rentals.pass(1);
        rentals.end(3);
        Check.same("20: the last of as many rentals as 512 calls can hold", rentals.owesAnew(7), 6);
        BaulkHall loans = new BaulkHall();
        for (int i = 0; i < 255; i++) {
            loans.lend(i % 6, i % 8);
            loans.takeBack(i % 6);
        }
        loans.lend(5, 7);
        Check.same("20: the last of as many loans", loans.owesAnew(7), 20);
        BaulkHall stays = new BaulkHall();
        stays.begin(0, 0, 1, true);
        for (int i = 0; i < 168; i++) {
            stays.tear(i % 2);
            stays.resume(0, 1 - i % 2);
            stays.mend(i % 2);
        }
        for (int table = 0; table < 2; table++) {
            stays.rent(table, 5);
            stays.pass(30);
            stays.end(table);
        }
        Check.same("20: below the last of as many stays of a frame, and behind it", stays.owesAnew(5), 18);
    }

    /** Frames of the league that are on the table up to the minute of renting, or from its last minute on. */
    private static void leagueBeforeAndBehind() {
        BaulkHall before = new BaulkHall();
        before.begin(0, 1, 2, true);
        before.pass(20);
        before.tear(0);
        before.mend(0);
        before.rent(0, 7);
        before.pass(11);
        before.begin(0, 3, 4, true);
        before.end(0);
        before.pass(20);
        owed("the league up to the first minute and from the last one on", before, 7, 12);
        BaulkHall all = new BaulkHall();
        all.rent(0, 7);
        all.begin(0, 1, 2, true);
        all.pass(20);
        all.tear(0);
        owed("the league from the first to the last minute", all, 7, 0);
        all.mend(0);
        all.rent(0, 7);
        all.pass(10);
        all.resume(0, 0);
        all.pass(200);
        all.tear(0);
        owed("10 minutes ahead of the league", all, 7, 6);
        all.mend(0);
        all.rent(0, 7);
        all.resume(0, 0);
        all.pass(200);
        Halls.play(all, 0, Halls.WON_BY_FIRST);
        all.pass(1);
        all.end(0);
        owed("a minute behind the league", all, 7, 12);
        leagueElsewhere();
        BaulkHall twice = new BaulkHall();
        twice.rent(0, 7);
        twice.pass(5);
        twice.begin(0, 1, 2, true);
        twice.pass(100);
        Halls.play(twice, 0, Halls.WON_BY_FIRST);
        twice.pass(5);
        twice.begin(0, 1, 2, true);
        twice.pass(100);
        Halls.play(twice, 1, Halls.WON_BY_FIRST);
        owed("while two frames are over and the table is rented", twice, 7, 0);
        twice.end(0);
        owed("10 minutes around two frames of the league", twice, 7, 6);
    }
}
