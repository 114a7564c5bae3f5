/** Promises 19 and 20: what a customer owes, as it is kept and told anew. Edges are in TablesEdgesTest. */
public final class BillsTest {
    public static void main(String[] args) {
        bills();
        leagueAroundRentals();
        playedFrameGoesOn();
        frameThatEnds();
        manyRentals();
        Check.finish("BillsTest");
    }

    private static void owed(String what, BaulkHall hall, int customer, int due) {
        Check.same("19: owes, " + what, hall.owes(customer), due);
        Check.same("20: owesAnew, " + what, hall.owesAnew(customer), due);
    }

    private static void bills() {
        BaulkHall hall = new BaulkHall();
        hall.rent(0, 3);
        hall.pass(21);
        owed("while the table is rented", hall, 3, 0);
        hall.setPrice(10);
        hall.end(0);
        owed("behind 21 minutes at 10", hall, 3, 30);
        hall.setPrice(50);
        owed("behind a change of the price", hall, 3, 30);
        hall.rent(1, 3);
        hall.pass(10);
        hall.tear(1);
        owed("behind a torn cloth", hall, 3, 80);
        hall.lend(4, 3);
        owed("with a cue", hall, 3, 100);
        hall.takeBack(4);
        owed("behind a cue without wear", hall, 3, 80);
        owed("by another customer", hall, 2, 0);
        hall.rent(0, 2);
        hall.pass(1);
        hall.end(0);
        owed("by the next renter of a table", hall, 2, 50);
        owed("by the one before", hall, 3, 80);
    }

    /** Frames of the league that begin and end ahead of, within and behind the renting of tables. */
    private static void leagueAroundRentals() {
        BaulkHall hall = new BaulkHall();
        hall.begin(0, 0, 1, true);
        hall.pass(15);
        hall.rent(0, 2);
        hall.pass(25);
        hall.end(0);
        owed("below the league all the time", hall, 2, 0);
        hall.pass(5);
        hall.rent(0, 2);
        hall.pass(5);
        hall.tear(0);
        owed("and below it up to a torn cloth", hall, 2, 0);
        hall.rent(1, 2);
        hall.pass(12);
        hall.resume(0, 1);
        hall.pass(40);
        hall.end(1);
        owed("12 minutes ahead of the league", hall, 2, 12);
        hall.pass(3);
        hall.rent(1, 4);
        hall.pass(7);
        owed("by another one below the same frame", hall, 4, 0);
        hall.mend(0);
        hall.rent(0, 5);
        hall.pass(11);
        hall.end(1);
        hall.end(0);
        owed("by one on another table", hall, 5, 12);
        owed("by one who was below the league", hall, 4, 0);
        hall.rent(1, 4);
        hall.begin(0, 4, 5, true);
        hall.pass(9);
        hall.tear(1);
        owed("with a frame of the league on another table, too", hall, 4, 0);
    }

    /** A frame of the league that was played goes on at other tables, and stops their clocks. */
    private static void playedFrameGoesOn() {
        BaulkHall hall = Halls.bare("2,40 5,40 2,6");
        hall.rent(1, 5);
        hall.rent(2, 6);
        hall.pass(3);
        hall.tear(0);
        hall.resume(0, 1);
        hall.pass(50);
        Halls.play(hall, 0, "1,36");
        hall.pass(50);
        hall.tear(1);
        owed("3 minutes ahead of a frame that was played", hall, 5, 6);
        hall.resume(0, 2);
        hall.pass(100);
        hall.end(2);
        owed("103 minutes ahead of that frame", hall, 6, 66);
    }

    private static void frameThatEnds() {
        BaulkHall hall = new BaulkHall();
        hall.rent(0, 7);
        hall.pass(4);
        hall.begin(0, 0, 1, true);
        hall.pass(100);
        Halls.play(hall, 0, Halls.WON_BY_FIRST);
        Check.same("7: the clock counts behind the end of the frame", hall.pass(7), 7);
        hall.end(0);
        owed("behind the end of a frame of the league", hall, 7, 12);
        BaulkHall next = new BaulkHall();
        next.rent(0, 7);
        next.begin(0, 0, 1, true);
        Halls.play(next, 0, Halls.WON_BY_FIRST);
        next.pass(30);
        next.begin(0, 7, 1, false);
        next.pass(10);
        next.end(0);
        owed("behind a frame of the league and one that is not", next, 7, 24);
        BaulkHall other = new BaulkHall();
        other.rent(0, 7);
        other.begin(0, 7, 1, false);
        other.pass(11);
        other.end(0);
        owed("below a frame that is not of the league", other, 7, 12);
    }

    private static void manyRentals() {
        BaulkHall rented = new BaulkHall();
        int due = 0;
        for (int i = 0; i < 160; i++) {
            rented.rent(i % 4, i % 8);
            rented.pass(i % 11 + 1);
            rented.end(i % 4);
            due += i % 8 == 3 ? (i % 11 == 10 ? 12 : 6) : 0;
        }
        owed("behind 160 rentals", rented, 3, due);
    }
}
