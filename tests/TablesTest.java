/** Promises 1 to 7 and 14 to 18: tables and their clocks. Edges are in TablesEdgesTest. */
public final class TablesTest {
    public static void main(String[] args) {
        newObject();
        setPrice();
        rent();
        end();
        tear();
        mend();
        pass();
        clocksStopForTheLeague();
        questions();
        Check.finish("TablesTest");
    }

    private static void newObject() {
        Check.same("1: a new object", Check.answersOf(new BaulkHall()),
                "[0, [true, -1, 0, -1], [true, -1, 0, -1], [true, -1, 0, -1], [true, -1, 0, -1],"
                + " [0, 0, 0, 0, -1, 30], [0, 0, 0, 0, -1, 30], [0, 0, 0, 0, -1, 30], [0, 0, 0, 0, -1, 30],"
                + " [0, 0, 0, 0, -1, 30], [0, 0, 0, 0, -1, 30], [0, 0, 0, 0, -1, 30], [0, 0, 0, 0, -1, 30],"
                + " 0, 0, 0, 0, 0, 0, 6]");
        Check.same("1: the frames of a new object", new BaulkHall().frames(), 0);
        BaulkHall one = new BaulkHall();
        BaulkHall other = new BaulkHall();
        one.rent(0, 0);
        one.pass(5);
        one.begin(1, 1, 2, true);
        Check.same("1: an object beside a used one", Check.answersOf(other), Check.answersOf(new BaulkHall()));
    }

    private static void setPrice() {
        BaulkHall hall = new BaulkHall();
        Check.same("2: setPrice(50) at first", hall.setPrice(50), 6);
        Check.same("2: setPrice(0)", hall.setPrice(0), 50);
        Check.same("2: setPrice(7)", hall.setPrice(7), 0);
    }

    /** Table 0 is rented by 2, table 1 is closed. */
    private static BaulkHall someTables() {
        BaulkHall hall = new BaulkHall();
        hall.rent(0, 2);
        hall.tear(1);
        hall.pass(13);
        return hall;
    }

    private static void rent() {
        BaulkHall hall = new BaulkHall();
        Check.same("3: rent(3, 7)", hall.rent(3, 7), 1);
        Check.same("3: rent(0, 0)", hall.rent(0, 0), 2);
        Check.same("3: rent(1, 1)", hall.rent(1, 1), 3);
        Check.same("3: rent(2, 2)", hall.rent(2, 2), 4);
        hall.end(0);
        Check.same("3: rent(0, 0) again", hall.rent(0, 0), 4);
        hall.end(0);
        hall.end(1);
        Check.same("3: rent(1, 0) behind renting another one", hall.rent(1, 0), 3);
    }

    private static int billAfter(int price, int... passes) {
        BaulkHall hall = new BaulkHall();
        hall.rent(2, 5);
        for (int minutes : passes) {
            hall.pass(minutes);
        }
        hall.setPrice(price);
        return hall.end(2);
    }

    private static void end() {
        Check.same("4: the bill of no minute", billAfter(6), 0);
        Check.same("4: the bill of 1 minute", billAfter(6, 1), 6);
        Check.same("4: the bill of 10 minutes", billAfter(6, 4, 6), 6);
        Check.same("4: the bill of 11 minutes", billAfter(6, 10, 1), 12);
        Check.same("4: the bill of 200 minutes, at the price of then", billAfter(50, 200), 1000);
        Check.same("4: the bill at no price", billAfter(0, 33), 0);
        BaulkHall hall = someTables();
        hall.setPrice(3);
        Check.same("4: end(0)", hall.end(0), 6);
        Check.same("4: the renter behind end", hall.renter(0), -1);
        Check.same("4: the clock behind end", hall.clock(0), 0);
        Check.same("4: the table is open behind end", hall.isOpen(0), true);
        hall.rent(0, 4);
        Check.same("4: the clock of the next renter", hall.clock(0), 0);
        hall.pass(1);
        Check.same("4: the bill of the next renter", hall.end(0), 3);
        endAndFrames();
    }

    private static void endAndFrames() {
        BaulkHall hall = new BaulkHall();
        hall.rent(0, 0);
        hall.rent(1, 1);
        hall.begin(0, 0, 1, false);
        hall.begin(1, 0, 1, true);
        hall.end(0);
        hall.end(1);
        Check.same("4: a frame that is not of the league waits when renting ends", hall.state(0), 1);
        Check.same("4: and is on no table", hall.frameOn(0), -1);
        Check.same("4: a frame of the league stays", hall.state(1), 0);
        Check.same("4: on its table", hall.frameOn(1), 1);
    }

    private static void tear() {
        BaulkHall hall = someTables();
        Check.same("5: tear(0), rented for 13 minutes", hall.tear(0), 12);
        Check.same("5: what its customer owes", hall.owes(2), 12);
        Check.same("5: it is closed", hall.isOpen(0), false);
        Check.same("5: it is not rented", hall.renter(0), -1);
        Check.same("5: its clock", hall.clock(0), 0);
        Check.same("5: pass behind it", hall.pass(10), 0);
        Check.same("5: tear(2), not rented", hall.tear(2), 0);
        Check.same("5: its customer rents another one", hall.rent(3, 2), 1);
        BaulkHall framed = new BaulkHall();
        framed.rent(0, 0);
        framed.begin(0, 0, 1, false);
        framed.begin(1, 2, 3, true);
        framed.tear(0);
        framed.tear(1);
        Check.same("5: a frame on a torn table waits", framed.state(0), 1);
        Check.same("5: one of the league, too", framed.state(1), 1);
        Check.same("5: a torn table has no frame", framed.frameOn(0), -1);
        Check.same("5: nor has the other one", framed.frameOn(1), -1);
    }

    private static void mend() {
        BaulkHall hall = someTables();
        hall.tear(3);
        hall.tear(0);
        Check.same("6: mend(1)", hall.mend(1), 2);
        Check.same("6: mend(3)", hall.mend(3), 3);
        Check.same("6: it is open", hall.isOpen(3), true);
        Check.same("6: mend(0)", hall.mend(0), 4);
        Check.same("6: a mended table is not rented", hall.renter(0), -1);
        Check.same("6: a mended table can be rented", hall.rent(0, 2), 1);
    }

    private static void pass() {
        BaulkHall hall = new BaulkHall();
        Check.same("7: pass(1) with no table rented", hall.pass(1), 0);
        hall.rent(0, 0);
        Check.same("7: pass(200) with one", hall.pass(200), 200);
        hall.rent(3, 1);
        Check.same("7: pass(7) with two", hall.pass(7), 14);
        Check.same("14: the minute", hall.minute(), 208);
        Check.same("17: the first clock", hall.clock(0), 207);
        Check.same("17: the second clock", hall.clock(3), 7);
    }

    private static void clocksStopForTheLeague() {
        BaulkHall hall = new BaulkHall();
        hall.rent(0, 0);
        hall.rent(1, 1);
        hall.begin(0, 2, 3, true);
        hall.begin(1, 1, 4, false);
        Check.same("7: pass(9) with a frame of the league on one of two", hall.pass(9), 9);
        Check.same("17: the clock below the league", hall.clock(0), 0);
        Check.same("17: the clock below another frame", hall.clock(1), 9);
        hall.begin(2, 5, 6, true);
        hall.rent(2, 2);
        Check.same("7: pass(5), another table rented below the league", hall.pass(5), 5);
        hall.end(0);
        hall.rent(0, 0);
        Check.same("7: pass(2), rented anew below the league", hall.pass(2), 2);
        hall.tear(0);
        hall.mend(0);
        hall.rent(0, 0);
        Check.same("7: pass(4), the frame of the league was taken off", hall.pass(4), 8);
        hall.resume(0, 0);
        Check.same("7: pass(3), it came back", hall.pass(3), 3);
        Check.same("17: the clock that stopped", hall.clock(0), 4);
        Check.same("4: the bill of a clock that stopped", hall.end(0), 6);
    }

    private static void questions() {
        BaulkHall hall = someTables();
        hall.begin(2, 0, 1, true);
        Check.same("15: isOpen(0)", hall.isOpen(0), true);
        Check.same("15: isOpen(1)", hall.isOpen(1), false);
        Check.same("16: renter(0)", hall.renter(0), 2);
        Check.same("16: renter(1)", hall.renter(1), -1);
        Check.same("17: clock(0)", hall.clock(0), 13);
        Check.same("17: clock(1)", hall.clock(1), 0);
        Check.same("18: frameOn(2)", hall.frameOn(2), 0);
        Check.same("18: frameOn(3)", hall.frameOn(3), -1);
    }
}
