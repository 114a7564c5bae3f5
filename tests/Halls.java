/** Halls in states that several tests ask for, and shots that lead to such states. */
final class Halls {
    /** Shots of two players without cues; the first one wins with 29 to 14 points. */
    static final String WON_BY_FIRST =
            "2,40 5,40 0,12 2,15 1,29 1,22 1,15 5,6 5,6 0,39 1,23 7,40 6,40 7,40";
    /** The second one wins with 32 to 8 points. */
    static final String WON_BY_SECOND =
            "2,40 5,40 7,26 0,23 4,32 3,40 1,18 5,6 7,40 1,40 3,40 3,40 1,40 7,40 5,40 5,30 7,35 3,6";
    /** Both have 24 points, and the first one makes the last shot. */
    static final String TIE_OF_FIRST =
            "0,15 4,26 1,36 4,20 3,40 7,10 1,7 1,40 3,40 7,40 1,40 5,38 5,40 7,40 1,28 1,20 1,21 7,21 1,40 5,40"
            + " 5,40 2,40 3,39 1,15";
    /** Both have 18 points, and the second one makes the last shot. */
    static final String TIE_OF_SECOND =
            "6,40 2,40 6,23 2,40 2,40 2,8 7,29 1,26 4,7 1,38 1,20 1,15 5,6 3,40 1,27 1,40 7,40 7,40 3,35 1,15";

    /** For each direction shots of two players without cues, behind which the ball on is seen in it. */
    static final String[] SEEN_IN_DIRECTION = {"5,3 6,16", "6,35 0,38", "5,29", "6,34 4,23", "6,25 1,13",
        "6,37 3,19 6,34", "6,9 7,35", "6,34 3,7"};

    /** So that a broken class ends a test with wrong answers, not never. */
    static final int MOST_STEPS = 60;

    private Halls() {
    }

    /** Makes shots "direction,power direction,power ..", and returns the answer of the last one. */
    static int play(BaulkHall hall, int frame, String shots) {
        int answer = 0;
        for (String shot : shots.split(" ")) {
            if (!shot.isEmpty()) {
                String[] parts = shot.split(",");
                answer = hall.shoot(frame, Integer.parseInt(parts[0]), Integer.parseInt(parts[1]));
            }
        }
        return answer;
    }

    /** A frame 0 of the players 0 and 1, who have no cues, behind some shots. */
    static BaulkHall bare(String shots) {
        BaulkHall hall = new BaulkHall();
        hall.begin(0, 0, 1, true);
        play(hall, 0, shots);
        return hall;
    }

    /** A frame 0 with new cues 0 and 1, so that the force of the first shots is their power. */
    static BaulkHall cued() {
        BaulkHall hall = new BaulkHall();
        hall.begin(0, 0, 1, true);
        hall.lend(0, 0);
        hall.lend(1, 1);
        return hall;
    }

    /** The least power that gives a force without a cue. */
    static int barePower(int force) {
        int power = 1;
        while (power < 40 && Math.max(1, 3 * power / 4) != force) {
            power++;
        }
        return power;
    }

    /** The customer 0 has the cue 2 with a wear that shots up and down, all of them fouls, brought it to. */
    static BaulkHall worn(int wear) {
        BaulkHall hall = new BaulkHall();
        hall.begin(0, 0, 1, true);
        hall.lend(2, 0);
        for (int i = 0; i < MOST_STEPS && hall.wear(2) < wear; i++) {
            playOneByTheFirst(hall, hall.wear(2) + 11 <= wear ? 40 : 1);
        }
        return hall;
    }

    static void playOneByTheFirst(BaulkHall hall, int power) {
        if (hall.turn(0) != 0) {
            hall.shoot(0, 0, 1);
        }
        hall.shoot(0, 4, power);
    }

    /** Twenty frames were begun, and all of them wait; all tables are open. */
    static BaulkHall twentyWaiting() {
        BaulkHall hall = new BaulkHall();
        for (int i = 0; i < 20; i++) {
            hall.begin(0, i % 8, (i + 1) % 8, true);
            hall.tear(0);
            hall.mend(0);
        }
        return hall;
    }

    /** Customers 0 to 3 rent the tables 0 to 3. */
    static BaulkHall allRented() {
        BaulkHall hall = new BaulkHall();
        for (int table = 0; table < 4; table++) {
            hall.rent(table, table);
        }
        return hall;
    }

    static BaulkHall allClosed() {
        BaulkHall hall = new BaulkHall();
        for (int table = 0; table < 4; table++) {
            hall.tear(table);
        }
        return hall;
    }

    /** Customers 0 to 5 have the cues 0 to 5. */
    static BaulkHall allLent() {
        BaulkHall hall = new BaulkHall();
        for (int cue = 0; cue < 6; cue++) {
            hall.lend(cue, cue);
        }
        return hall;
    }

    /** A minute, at which table 0 has been rented by 0 from the minute 0 on. */
    static BaulkHall atMinute(int minute) {
        BaulkHall hall = new BaulkHall();
        hall.rent(0, 0);
        for (int i = 0; i < MOST_STEPS && hall.minute() < minute; i++) {
            hall.pass(Math.min(200, minute - hall.minute()));
        }
        return hall;
    }

    /**
     * A hall of which each part is in use. Frame 0 is over; frames 1, of the league, and 4, which is not, wait;
     * frame 2, not of the league, is on table 2, which 4 rents, and frame 3, of the league, on table 0, which 2 rents.
     * Table 1 is closed; table 3 is open, not rented and empty. Customer 4 has the cue 0; the cue 5 is worn.
     */
    static BaulkHall busy() {
        BaulkHall hall = new BaulkHall();
        hall.setPrice(9);
        hall.begin(3, 0, 1, true);
        play(hall, 0, WON_BY_FIRST);
        hall.begin(3, 2, 3, true);
        play(hall, 1, "2,40 5,40 2,6");
        hall.tear(3);
        hall.mend(3);
        hall.rent(2, 4);
        hall.lend(0, 4);
        hall.begin(2, 4, 5, false);
        play(hall, 2, "3,24 6,15");
        hall.rent(0, 2);
        hall.pass(13);
        hall.begin(0, 6, 7, true);
        hall.pass(20);
        hall.lend(5, 6);
        play(hall, 3, "0,6 1,20");
        hall.takeBack(5);
        hall.rent(3, 0);
        hall.begin(3, 0, 1, false);
        play(hall, 4, "0,6");
        hall.end(3);
        hall.tear(1);
        return hall;
    }
}
