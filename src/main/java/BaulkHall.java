/**
 * A billiard hall: frames of two players on tables that are rented by clocks, with cues that are lent.
 * What each call does is told by the promises of the project's document.
 */
public final class BaulkHall {
    private static final int CUSTOMERS = 8;
    private static final int TABLES = 4;
    private static final int CUES = 6;
    private static final int MOST_FRAMES = 20;
    /** The document uses an object for at most so many calls, so no history needs more rows. */
    private static final int MOST_CALLS = 512;
    private static final int LAST_MINUTE = 10000;
    private static final int LONGEST_PASS = 200;
    private static final int HIGHEST_PRICE = 50;
    private static final int DEPOSIT = 20;
    private static final int MOST_WEAR = 100;
    private static final int MOST_FORCE = 40;
    private static final int LEAST_FOUL_POINTS = 4;

    private static final int BALLS = 8;
    private static final int WHITE = 0;
    private static final int COLUMNS = 16;
    private static final int ROWS = 8;
    private static final int CELLS = 128;
    private static final int DIRECTIONS = 8;
    private static final int MOST_TICKS = 300;
    private static final int NONE = -1;
    private static final int[] SPOTS = {67, 74, 59, 91, 44, 76, 108, 77};
    private static final int[] POCKETS = {0, 7, 15, 112, 119, 127};
    private static final int[] COLUMN_STEPS = {0, 1, 1, 1, 0, -1, -1, -1};
    private static final int[] ROW_STEPS = {-1, -1, 0, 1, 1, 1, 0, -1};

    private final Table[] tables = new Table[TABLES];
    private final Cue[] cues = new Cue[CUES];
    private final Frame[] begunFrames = new Frame[MOST_FRAMES];
    private final Rental[] rentals = new Rental[MOST_CALLS];
    private final Stay[] stays = new Stay[MOST_CALLS];
    private final Loan[] loans = new Loan[MOST_CALLS];
    private final int[] debts = new int[CUSTOMERS];
    private final int[] leagueWins = new int[CUSTOMERS];
    private final Roll boardRoll = new BoardRoll();
    private final Roll pairsRoll = new PairsRoll();
    private int frameCount;
    private int rentalCount;
    private int stayCount;
    private int loanCount;
    private int price = 6;
    private int now;

    public BaulkHall() {
        for (int i = 0; i < TABLES; i++) {
            tables[i] = new Table();
        }
        for (int i = 0; i < CUES; i++) {
            cues[i] = new Cue();
        }
    }

    // ---- tables

    public int setPrice(int coins) throws IllegalArgumentException {
        requireRange(coins, 0, HIGHEST_PRICE);
        int before = price;
        price = coins;
        return before;
    }

    public int rent(int table, int customer) throws IndexOutOfBoundsException, IllegalStateException {
        Table rented = tableAt(table);
        requireCustomer(customer);
        if (!rented.isOpen || rented.rental != null || rentsAny(customer)) {
            throw new IllegalStateException("the table is not to be had, or the customer rents one");
        }
        Rental rental = new Rental(table, customer, now);
        rented.rental = rental;
        rented.minutes = 0;
        if (rentalCount < rentals.length) {
            rentals[rentalCount] = rental;
            rentalCount++;
        }
        return rentedTables();
    }

    public int end(int table) throws IndexOutOfBoundsException, IllegalStateException {
        Table ended = tableAt(table);
        if (ended.rental == null) {
            throw new IllegalStateException("the table is not rented");
        }
        return endRental(ended);
    }

    public int tear(int table) throws IndexOutOfBoundsException, IllegalStateException {
        Table torn = tableAt(table);
        if (!torn.isOpen) {
            throw new IllegalStateException("the table is closed");
        }
        int bill = endRental(torn);
        takeFrameOff(torn);
        torn.isOpen = false;
        return bill;
    }

    public int mend(int table) throws IndexOutOfBoundsException, IllegalStateException {
        Table mended = tableAt(table);
        if (mended.isOpen) {
            throw new IllegalStateException("the table is open");
        }
        mended.isOpen = true;
        return openTables();
    }

    public int pass(int minutes) throws IllegalArgumentException, IllegalStateException {
        requireRange(minutes, 1, LONGEST_PASS);
        if (now + minutes > LAST_MINUTE) {
            throw new IllegalStateException("the hall knows no later minute");
        }
        now += minutes;
        int counted = 0;
        for (Table table : tables) {
            if (table != null && table.isCounting()) {
                table.minutes += minutes;
                counted += minutes;
            }
        }
        return counted;
    }

    // ---- frames

    public int begin(int table, int first, int second, boolean isLeague)
            throws IndexOutOfBoundsException, IllegalArgumentException, IllegalStateException {
        Table chosen = tableAt(table);
        requireCustomer(first);
        requireCustomer(second);
        if (first == second) {
            throw new IllegalArgumentException("a frame has two players");
        }
        if (frameCount >= begunFrames.length) {
            throw new IllegalStateException("no more frames can be begun");
        }
        requirePlace(chosen, isLeague, first, second);
        Frame frame = new Frame(frameCount, first, second, isLeague);
        begunFrames[frameCount] = frame;
        frameCount++;
        putFrameOn(frame, chosen, table);
        return frame.number;
    }

    public int resume(int frame, int table) throws IndexOutOfBoundsException, IllegalStateException {
        Frame waiting = frameAt(frame);
        Table chosen = tableAt(table);
        if (!waiting.isWaiting()) {
            throw new IllegalStateException("the frame does not wait");
        }
        requirePlace(chosen, waiting.isLeague, waiting.firstPlayer, waiting.secondPlayer);
        putFrameOn(waiting, chosen, table);
        return waiting.player();
    }

    public int shoot(int frame, int direction, int power)
            throws IndexOutOfBoundsException, IllegalArgumentException, IllegalStateException {
        Frame played = frameAt(frame);
        requireRange(direction, 0, DIRECTIONS - 1);
        requireRange(power, 1, MOST_FORCE);
        if (played.table == null) {
            throw new IllegalStateException("the frame is on no table");
        }
        Cue cue = cueHeldBy(played.player());
        boardRoll.run(played.cells, direction, forceWith(cue, power));
        if (cue != null) {
            cue.wearOff(power);
        }
        int points = played.settle(boardRoll);
        if (played.isOver()) {
            countWin(played);
            takeFrameOff(played.table);
        }
        return points;
    }

    // ---- cues

    public int lend(int cue, int customer) throws IndexOutOfBoundsException, IllegalStateException {
        Cue lent = cueAt(cue);
        requireCustomer(customer);
        if (lent.loan != null || cueHeldBy(customer) != null) {
            throw new IllegalStateException("the cue is lent, or the customer has one");
        }
        Loan loan = new Loan(customer, lent.wear);
        lent.loan = loan;
        if (loanCount < loans.length) {
            loans[loanCount] = loan;
            loanCount++;
        }
        addDebt(customer, DEPOSIT);
        return lent.wear;
    }

    public int takeBack(int cue) throws IndexOutOfBoundsException, IllegalStateException {
        Cue taken = cueAt(cue);
        Loan loan = taken.loan;
        if (loan == null) {
            throw new IllegalStateException("the cue is not lent");
        }
        loan.close(taken.wear);
        taken.loan = null;
        int coinsBack = DEPOSIT - loan.coinsKept();
        addDebt(loan.customer, -coinsBack);
        return coinsBack;
    }

    public int tip(int cue) throws IndexOutOfBoundsException, IllegalStateException {
        Cue tipped = cueAt(cue);
        if (tipped.loan != null) {
            throw new IllegalStateException("the cue is lent");
        }
        int before = tipped.wear;
        tipped.wear = 0;
        return before;
    }

    // ---- tables as they are; nothing from here on changes anything

    public int minute() {
        return now;
    }

    public boolean isOpen(int table) throws IndexOutOfBoundsException {
        return tableAt(table).isOpen;
    }

    public int renter(int table) throws IndexOutOfBoundsException {
        Rental rental = tableAt(table).rental;
        return rental == null ? NONE : rental.customer;
    }

    public int clock(int table) throws IndexOutOfBoundsException {
        Table asked = tableAt(table);
        return asked.rental == null ? 0 : asked.minutes;
    }

    public int frameOn(int table) throws IndexOutOfBoundsException {
        Frame frame = tableAt(table).frame;
        return frame == null ? NONE : frame.number;
    }

    public int owes(int customer) throws IndexOutOfBoundsException {
        requireCustomer(customer);
        return debts[customer];
    }

    public int owesAnew(int customer) throws IndexOutOfBoundsException {
        requireCustomer(customer);
        return billsAnew(customer) + depositsAnew(customer);
    }

    // ---- frames as they are

    public int frames() {
        return frameCount;
    }

    public int state(int frame) throws IndexOutOfBoundsException {
        Frame asked = frameAt(frame);
        if (asked.isOver()) {
            return 2;
        }
        return asked.isWaiting() ? 1 : 0;
    }

    public int cell(int frame, int ball) throws IndexOutOfBoundsException {
        Frame asked = frameAt(frame);
        if (ball < 0 || ball >= asked.cells.length) {
            throw new IndexOutOfBoundsException("no such ball");
        }
        return asked.cells[ball];
    }

    public int ballOn(int frame) throws IndexOutOfBoundsException {
        return frameAt(frame).lowestBall();
    }

    public boolean isFree(int frame) throws IndexOutOfBoundsException {
        return frameAt(frame).hasFreeBall;
    }

    public int turn(int frame) throws IndexOutOfBoundsException {
        Frame asked = frameAt(frame);
        return asked.isOver() ? NONE : asked.player();
    }

    public int points(int frame, boolean isSecond) throws IndexOutOfBoundsException {
        Frame asked = frameAt(frame);
        return isSecond ? asked.secondPoints : asked.firstPoints;
    }

    public int winner(int frame) throws IndexOutOfBoundsException {
        return frameAt(frame).victor;
    }

    public int contacts(int frame, int direction, int force)
            throws IndexOutOfBoundsException, IllegalArgumentException {
        return contactsOf(boardRoll, frame, direction, force);
    }

    public int contactsByPairs(int frame, int direction, int force)
            throws IndexOutOfBoundsException, IllegalArgumentException {
        return contactsOf(pairsRoll, frame, direction, force);
    }

    public int wins(int customer) throws IndexOutOfBoundsException {
        requireCustomer(customer);
        return leagueWins[customer];
    }

    public int rank(int customer) throws IndexOutOfBoundsException {
        requireCustomer(customer);
        int better = 0;
        for (int other : leagueWins) {
            if (other > leagueWins[customer]) {
                better++;
            }
        }
        return better;
    }

    // ---- cues as they are

    public int wear(int cue) throws IndexOutOfBoundsException {
        return cueAt(cue).wear;
    }

    public int cueOf(int customer) throws IndexOutOfBoundsException {
        requireCustomer(customer);
        for (int i = 0; i < cues.length; i++) {
            if (cues[i] != null && cues[i].isHeldBy(customer)) {
                return i;
            }
        }
        return NONE;
    }

    public int force(int customer, int power) throws IndexOutOfBoundsException, IllegalArgumentException {
        requireCustomer(customer);
        requireRange(power, 1, MOST_FORCE);
        return forceWith(cueHeldBy(customer), power);
    }

    // ---- what the calls ask of their arguments

    private static void requireRange(int number, int least, int most) {
        if (number < least || number > most) {
            throw new IllegalArgumentException("out of range");
        }
    }

    private static void requireCustomer(int customer) {
        if (customer < 0 || customer >= CUSTOMERS) {
            throw new IndexOutOfBoundsException("no such customer");
        }
    }

    private Table tableAt(int table) {
        Table found = table >= 0 && table < tables.length ? tables[table] : null;
        if (found == null) {
            throw new IndexOutOfBoundsException("no such table");
        }
        return found;
    }

    private Cue cueAt(int cue) {
        Cue found = cue >= 0 && cue < cues.length ? cues[cue] : null;
        if (found == null) {
            throw new IndexOutOfBoundsException("no such cue");
        }
        return found;
    }

    private Frame frameAt(int frame) {
        Frame found = frame >= 0 && frame < frameCount && frame < begunFrames.length ? begunFrames[frame] : null;
        if (found == null) {
            throw new IndexOutOfBoundsException("no such frame");
        }
        return found;
    }

    private static void requirePlace(Table table, boolean isLeague, int first, int second) {
        if (!table.isOpen || table.frame != null) {
            throw new IllegalStateException("the table is closed or has a frame");
        }
        if (!isLeague && !table.isRentedBy(first) && !table.isRentedBy(second)) {
            throw new IllegalStateException("neither player rents the table");
        }
    }

    // ---- renting

    private boolean rentsAny(int customer) {
        for (Table table : tables) {
            if (table != null && table.isRentedBy(customer)) {
                return true;
            }
        }
        return false;
    }

    private int rentedTables() {
        int count = 0;
        for (Table table : tables) {
            if (table != null && table.rental != null) {
                count++;
            }
        }
        return count;
    }

    private int openTables() {
        int count = 0;
        for (Table table : tables) {
            if (table != null && table.isOpen) {
                count++;
            }
        }
        return count;
    }

    /** Ends the renting of a table, if there is one, and returns the bill. */
    private int endRental(Table table) {
        Rental rental = table.rental;
        if (rental == null) {
            return 0;
        }
        rental.close(now, price);
        table.rental = null;
        int bill = billFor(table.minutes, price);
        addDebt(rental.customer, bill);
        if (table.frame != null && !table.frame.isLeague) {
            takeFrameOff(table);
        }
        return bill;
    }

    private static int billFor(int minutes, int coins) {
        return (minutes + 9) / 10 * coins;
    }

    private void addDebt(int customer, int coins) {
        if (customer >= 0 && customer < debts.length) {
            debts[customer] += coins;
        }
    }

    // ---- bills, told once more from what happened

    private int billsAnew(int customer) {
        int sum = 0;
        for (int i = 0; i < rentalCount && i < rentals.length; i++) {
            Rental rental = rentals[i];
            if (rental != null && rental.customer == customer && rental.isClosed()) {
                int minutes = rental.end - rental.start - leagueMinutes(rental);
                sum += billFor(minutes, rental.price);
            }
        }
        return sum;
    }

    private int leagueMinutes(Rental rental) {
        int sum = 0;
        for (int i = 0; i < stayCount && i < stays.length; i++) {
            Stay stay = stays[i];
            if (stay != null && stay.table == rental.table) {
                sum += stay.minutesWithin(rental.start, rental.end);
            }
        }
        return sum;
    }

    private int depositsAnew(int customer) {
        int sum = 0;
        for (int i = 0; i < loanCount && i < loans.length; i++) {
            Loan loan = loans[i];
            if (loan != null && loan.customer == customer) {
                sum += loan.isClosed() ? loan.coinsKept() : DEPOSIT;
            }
        }
        return sum;
    }

    // ---- frames on tables

    private void putFrameOn(Frame frame, Table table, int number) {
        frame.table = table;
        table.frame = frame;
        if (!frame.isLeague) {
            return;
        }
        Stay stay = new Stay(number, now);
        table.stay = stay;
        if (stayCount < stays.length) {
            stays[stayCount] = stay;
            stayCount++;
        }
    }

    private void takeFrameOff(Table table) {
        if (table == null || table.frame == null) {
            return;
        }
        table.frame.table = null;
        table.frame = null;
        if (table.stay != null) {
            table.stay.close(now);
            table.stay = null;
        }
    }

    private void countWin(Frame frame) {
        int victor = frame.victor;
        if (frame.isLeague && victor >= 0 && victor < leagueWins.length) {
            leagueWins[victor]++;
        }
    }

    // ---- shots

    private Cue cueHeldBy(int customer) {
        for (Cue cue : cues) {
            if (cue != null && cue.isHeldBy(customer)) {
                return cue;
            }
        }
        return null;
    }

    private static int forceWith(Cue cue, int power) {
        int force = cue == null ? power * 3 / 4 : power * (200 - cue.wear) / 200;
        return Math.max(1, force);
    }

    private int contactsOf(Roll roll, int frame, int direction, int force) {
        Frame asked = frameAt(frame);
        requireRange(direction, 0, DIRECTIONS - 1);
        requireRange(force, 1, MOST_FORCE);
        roll.run(asked.cells, direction, force);
        return roll.meetings;
    }

    // ---- cells of a bed

    /** Returns the cell beside another one in a direction; NONE if that is beyond a border. */
    private static int cellBeside(int cell, int direction) {
        if (cell < 0 || direction < 0 || direction >= DIRECTIONS) {
            return NONE;
        }
        int column = cell % COLUMNS + COLUMN_STEPS[direction];
        int row = cell / COLUMNS + ROW_STEPS[direction];
        return isColumn(column) && isRow(row) ? COLUMNS * row + column : NONE;
    }

    private static boolean isColumn(int column) {
        return column >= 0 && column < COLUMNS;
    }

    private static boolean isRow(int row) {
        return row >= 0 && row < ROWS;
    }

    private static boolean isPocket(int cell) {
        for (int pocket : POCKETS) {
            if (pocket == cell) {
                return true;
            }
        }
        return false;
    }

    /** Returns the direction of a ball behind the border that it looked beyond. */
    private static int turnedBack(int cell, int direction) {
        if (cell < 0 || direction < 0 || direction >= DIRECTIONS) {
            return direction;
        }
        int turned = direction;
        if (!isColumn(cell % COLUMNS + COLUMN_STEPS[direction])) {
            turned = (DIRECTIONS - turned) % DIRECTIONS;
        }
        if (!isRow(cell / COLUMNS + ROW_STEPS[direction])) {
            turned = (DIRECTIONS + 4 - turned) % DIRECTIONS;
        }
        return turned;
    }

    private static final class Table {
        boolean isOpen = true;
        Rental rental;
        int minutes;
        Frame frame;
        /** The stay of the frame, if that is of the league. */
        Stay stay;

        boolean isRentedBy(int customer) {
            return rental != null && rental.customer == customer;
        }

        boolean isCounting() {
            return rental != null && (frame == null || !frame.isLeague);
        }
    }

    /** A customer's renting of a table, kept for the bills that are told anew. */
    private static final class Rental {
        final int table;
        final int customer;
        final int start;
        int end = NONE;
        int price;

        Rental(int table, int customer, int start) {
            this.table = table;
            this.customer = customer;
            this.start = start;
        }

        void close(int minute, int coins) {
            end = minute;
            price = coins;
        }

        boolean isClosed() {
            return end != NONE;
        }
    }

    /** The time for which a frame of the league was on a table. */
    private static final class Stay {
        final int table;
        final int start;
        int end = NONE;

        Stay(int table, int start) {
            this.table = table;
            this.start = start;
        }

        void close(int minute) {
            end = minute;
        }

        int minutesWithin(int from, int to) {
            int last = end == NONE ? to : Math.min(end, to);
            return Math.max(0, last - Math.max(start, from));
        }
    }

    private static final class Cue {
        int wear;
        Loan loan;

        boolean isHeldBy(int customer) {
            return loan != null && loan.customer == customer;
        }

        void wearOff(int power) {
            wear = Math.min(MOST_WEAR, wear + power / 4 + 1);
        }
    }

    /** A cue in a customer's hands, from the wear that it had to the wear that it came back with. */
    private static final class Loan {
        final int customer;
        final int wearBefore;
        int wearBehind = NONE;

        Loan(int customer, int wearBefore) {
            this.customer = customer;
            this.wearBefore = wearBefore;
        }

        void close(int wear) {
            wearBehind = wear;
        }

        boolean isClosed() {
            return wearBehind != NONE;
        }

        int coinsKept() {
            return (wearBehind - wearBefore) / 5;
        }
    }

    private static final class Frame {
        final int number;
        final int firstPlayer;
        final int secondPlayer;
        final boolean isLeague;
        final int[] cells = SPOTS.clone();
        /** Where the frame is; null while it waits, and when it is over. */
        Table table;
        boolean isTurnOfSecond;
        boolean hasFreeBall;
        int firstPoints;
        int secondPoints;
        int victor = NONE;

        Frame(int number, int firstPlayer, int secondPlayer, boolean isLeague) {
            this.number = number;
            this.firstPlayer = firstPlayer;
            this.secondPlayer = secondPlayer;
            this.isLeague = isLeague;
        }

        int player() {
            return isTurnOfSecond ? secondPlayer : firstPlayer;
        }

        boolean isOver() {
            return victor != NONE;
        }

        boolean isWaiting() {
            return table == null && !isOver();
        }

        /** Returns the ball on; NONE if there is none. */
        int lowestBall() {
            for (int ball = 1; ball < cells.length; ball++) {
                if (cells[ball] != NONE) {
                    return ball;
                }
            }
            return NONE;
        }

        /** Takes over what a shot left, and returns its points, below 0 for a foul. */
        int settle(Roll roll) {
            int ballOn = lowestBall();
            for (int ball = 0; ball < cells.length && ball < roll.cells.length; ball++) {
                cells[ball] = roll.cells[ball];
            }
            if (isFoul(roll, ballOn)) {
                return -settleFoul(roll, ballOn);
            }
            return settleFair(roll);
        }

        private boolean isFoul(Roll roll, int ballOn) {
            return roll.hasDropped[WHITE]
                    || roll.firstMet == NONE
                    || (roll.firstMet != ballOn && !hasFreeBall);
        }

        private int settleFair(Roll roll) {
            int points = roll.droppedNumbers();
            hasFreeBall = false;
            addPoints(isTurnOfSecond, points);
            if (lowestBall() == NONE) {
                victor = leader();
            }
            if (points == 0) {
                isTurnOfSecond = !isTurnOfSecond;
            }
            return points;
        }

        private int settleFoul(Roll roll, int ballOn) {
            int points = Math.max(LEAST_FOUL_POINTS, ballOn);
            isTurnOfSecond = !isTurnOfSecond;
            addPoints(isTurnOfSecond, points);
            for (int ball = 0; ball < cells.length && ball < roll.hasDropped.length; ball++) {
                if (roll.hasDropped[ball]) {
                    comeBack(ball);
                }
            }
            hasFreeBall = isHidden(ballOn);
            return points;
        }

        private void addPoints(boolean isForSecond, int points) {
            if (isForSecond) {
                secondPoints += points;
            } else {
                firstPoints += points;
            }
        }

        /** Returns who has more points; with the same points the player, who made the last shot. */
        private int leader() {
            if (firstPoints == secondPoints) {
                return player();
            }
            return firstPoints > secondPoints ? firstPlayer : secondPlayer;
        }

        private void comeBack(int ball) {
            if (ball < 0 || ball >= cells.length || ball >= SPOTS.length) {
                return;
            }
            cells[ball] = ballIn(SPOTS[ball]) == NONE ? SPOTS[ball] : lowestEmptyCell();
        }

        private int lowestEmptyCell() {
            for (int cell = 0; cell < CELLS; cell++) {
                if (!isPocket(cell) && ballIn(cell) == NONE) {
                    return cell;
                }
            }
            return NONE;
        }

        private int ballIn(int cell) {
            for (int ball = 0; ball < cells.length; ball++) {
                if (cells[ball] == cell) {
                    return ball;
                }
            }
            return NONE;
        }

        private boolean isHidden(int ball) {
            for (int direction = 0; direction < DIRECTIONS; direction++) {
                if (firstBallFromWhite(direction) == ball) {
                    return false;
                }
            }
            return true;
        }

        private int firstBallFromWhite(int direction) {
            int cell = cells[WHITE];
            for (int step = 0; step < COLUMNS; step++) {
                cell = cellBeside(cell, direction);
                if (cell == NONE) {
                    return NONE;
                }
                int ball = ballIn(cell);
                if (ball != NONE) {
                    return ball;
                }
            }
            return NONE;
        }
    }

    /** One shot on a bed, from its first tick to its last; the bed that it is given stays as it is. */
    private abstract static class Roll {
        final int[] cells = new int[BALLS];
        final int[] directions = new int[BALLS];
        final int[] forces = new int[BALLS];
        /** Which balls dropped in this shot, not in earlier ones. */
        final boolean[] hasDropped = new boolean[BALLS];
        int meetings;
        int firstMet;

        /** Makes ready to find balls, once all of them lie. */
        abstract void lay();

        /** Returns the ball that lies beside another one in a direction; NONE if there is none. */
        abstract int ballBeside(int ball, int direction);

        /** Notes that a ball went from a cell to another one, or to NONE. */
        abstract void note(int ball, int from, int to);

        final void run(int[] bed, int direction, int force) {
            for (int ball = 0; ball < BALLS && ball < bed.length; ball++) {
                cells[ball] = bed[ball];
                directions[ball] = 0;
                forces[ball] = 0;
                hasDropped[ball] = false;
            }
            meetings = 0;
            firstMet = NONE;
            directions[WHITE] = direction;
            forces[WHITE] = force;
            lay();
            for (int tick = 0; tick < MOST_TICKS && isSomeRolling(); tick++) {
                for (int ball = 0; ball < BALLS; ball++) {
                    if (isRolling(ball)) {
                        act(ball);
                    }
                }
            }
        }

        final int droppedNumbers() {
            int sum = 0;
            for (int ball = 1; ball < BALLS; ball++) {
                if (hasDropped[ball]) {
                    sum += ball;
                }
            }
            return sum;
        }

        private boolean isSomeRolling() {
            for (int ball = 0; ball < BALLS; ball++) {
                if (isRolling(ball)) {
                    return true;
                }
            }
            return false;
        }

        private boolean isRolling(int ball) {
            return ball >= 0 && ball < BALLS && cells[ball] != NONE && forces[ball] > 0;
        }

        private void act(int ball) {
            int next = cellBeside(cells[ball], directions[ball]);
            if (next == NONE) {
                directions[ball] = turnedBack(cells[ball], directions[ball]);
                forces[ball]--;
                return;
            }
            int other = ballBeside(ball, directions[ball]);
            if (other >= 0 && other < BALLS) {
                meet(ball, other);
            } else {
                roll(ball, next);
            }
        }

        private void meet(int ball, int other) {
            int given = (forces[ball] + 1) / 2;
            directions[other] = directions[ball];
            forces[ball] -= given;
            forces[other] += given;
            meetings++;
            if (ball == WHITE && firstMet == NONE) {
                firstMet = other;
            }
        }

        private void roll(int ball, int next) {
            int from = cells[ball];
            forces[ball]--;
            hasDropped[ball] = isPocket(next);
            cells[ball] = hasDropped[ball] ? NONE : next;
            note(ball, from, cells[ball]);
        }
    }

    /** Finds balls by a board of cells. */
    private static final class BoardRoll extends Roll {
        /** For each cell 1 more than its ball, 0 for none. */
        private final int[] board = new int[CELLS];

        void lay() {
            for (int cell = 0; cell < board.length; cell++) {
                board[cell] = 0;
            }
            for (int ball = 0; ball < BALLS; ball++) {
                put(cells[ball], ball + 1);
            }
        }

        int ballBeside(int ball, int direction) {
            if (ball < 0 || ball >= BALLS) {
                return NONE;
            }
            int cell = cellBeside(cells[ball], direction);
            return cell >= 0 && cell < board.length ? board[cell] - 1 : NONE;
        }

        void note(int ball, int from, int to) {
            put(from, 0);
            put(to, ball + 1);
        }

        private void put(int cell, int mark) {
            if (cell >= 0 && cell < board.length) {
                board[cell] = mark;
            }
        }
    }

    /** Finds balls by looking at all pairs of them. */
    private static final class PairsRoll extends Roll {
        void lay() {
        }

        int ballBeside(int ball, int direction) {
            for (int other = 0; other < BALLS; other++) {
                if (other != ball && isBeside(ball, other, direction)) {
                    return other;
                }
            }
            return NONE;
        }

        void note(int ball, int from, int to) {
        }

        private boolean isBeside(int ball, int other, int direction) {
            if (ball < 0 || ball >= BALLS || other < 0 || other >= BALLS
                    || direction < 0 || direction >= DIRECTIONS
                    || cells[ball] < 0 || cells[other] < 0) {
                return false;
            }
            return cells[other] % COLUMNS - cells[ball] % COLUMNS == COLUMN_STEPS[direction]
                    && cells[other] / COLUMNS - cells[ball] / COLUMNS == ROW_STEPS[direction];
        }
    }
}
