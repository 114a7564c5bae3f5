import java.util.ArrayList;
import java.util.Arrays;
import java.util.HashMap;
import java.util.List;
import java.util.Map;
import java.util.TreeMap;

/**
 * The document once more, in another manner than the class: balls by columns and rows, minutes one by one,
 * sums anew for each question. The random runs hold the class against it.
 */
final class Model {
    static final class Ball {
        int number;
        int x;
        int y;
        int dx;
        int dy;
        int force;

        Ball(int number, int cell) {
            this.number = number;
            x = cell % 16;
            y = cell / 16;
        }

        int cell() {
            return 16 * y + x;
        }
    }

    static final class Outcome {
        TreeMap<Integer, Ball> bed;
        List<Integer> dropped = new ArrayList<>();
        List<Integer> metByWhite = new ArrayList<>();
        int meets = 0;
    }

    static final class Game {
        int[] players;
        boolean league;
        TreeMap<Integer, Ball> bed = new TreeMap<>();
        int table = -1;
        int at = 0;
        int[] points = new int[2];
        boolean free;
        int winner = -1;

        boolean over() {
            return bed.size() == 1;
        }

        int on() {
            return over() ? -1 : bed.higherKey(0);
        }
    }

    static final int[] SPOTS = {67, 74, 59, 91, 44, 76, 108, 77};
    static final List<Integer> POCKETS = List.of(0, 7, 15, 112, 119, 127);
    static final int[][] WAYS = {{0, -1}, {1, -1}, {1, 0}, {1, 1}, {0, 1}, {-1, 1}, {-1, 0}, {-1, -1}};

    int price = 6;
    int now = 0;
    boolean[] open = {true, true, true, true};
    int[] renters = {-1, -1, -1, -1};
    int[] clocks = new int[4];
    int[] wears = new int[6];
    int[] wearsLent = new int[6];
    Map<Integer, Integer> cueByCustomer = new HashMap<>();
    int[] owed = new int[8];
    List<Game> games = new ArrayList<>();

    static void index(int i, int below) {
        if (i < 0 || i >= below) {
            throw new IndexOutOfBoundsException();
        }
    }

    static void argument(boolean isFine) {
        if (!isFine) {
            throw new IllegalArgumentException();
        }
    }

    static void state(boolean isFine) {
        if (!isFine) {
            throw new IllegalStateException();
        }
    }

    int setPrice(int coins) {
        argument(coins >= 0 && coins <= 50);
        int before = price;
        price = coins;
        return before;
    }

    int rent(int table, int customer) {
        index(table, 4);
        index(customer, 8);
        state(open[table] && renters[table] < 0);
        state(Arrays.stream(renters).noneMatch(r -> r == customer));
        renters[table] = customer;
        clocks[table] = 0;
        return (int) Arrays.stream(renters).filter(r -> r >= 0).count();
    }

    int end(int table) {
        index(table, 4);
        state(renters[table] >= 0);
        int tens = 0;
        for (int m = 0; m < clocks[table]; m += 10) {
            tens++;
        }
        owed[renters[table]] += tens * price;
        renters[table] = -1;
        clocks[table] = 0;
        for (Game game : games) {
            if (game.table == table && !game.league) {
                game.table = -1;
            }
        }
        return tens * price;
    }

    int tear(int table) {
        index(table, 4);
        state(open[table]);
        int bill = renters[table] >= 0 ? end(table) : 0;
        open[table] = false;
        for (Game game : games) {
            if (game.table == table) {
                game.table = -1;
            }
        }
        return bill;
    }

    int mend(int table) {
        index(table, 4);
        state(!open[table]);
        open[table] = true;
        int count = 0;
        for (boolean o : open) {
            count += o ? 1 : 0;
        }
        return count;
    }

    int pass(int minutes) {
        argument(minutes >= 1 && minutes <= 200);
        state(now + minutes <= 10000);
        int sum = 0;
        for (int m = 0; m < minutes; m++) {
            now++;
            for (int table = 0; table < 4; table++) {
                int on = frameOn(table);
                if (renters[table] >= 0 && !(on >= 0 && games.get(on).league)) {
                    clocks[table]++;
                    sum++;
                }
            }
        }
        return sum;
    }

    private void place(Game game, int table) {
        state(open[table] && frameOn(table) < 0);
        state(game.league || renters[table] == game.players[0] || renters[table] == game.players[1]);
    }

    int begin(int table, int first, int second, boolean isLeague) {
        index(table, 4);
        index(first, 8);
        index(second, 8);
        argument(first != second);
        state(games.size() < 20);
        Game game = new Game();
        game.players = new int[] {first, second};
        game.league = isLeague;
        place(game, table);
        for (int b = 0; b < 8; b++) {
            game.bed.put(b, new Ball(b, SPOTS[b]));
        }
        game.table = table;
        games.add(game);
        return games.size() - 1;
    }

    int resume(int frame, int table) {
        index(frame, games.size());
        index(table, 4);
        Game game = games.get(frame);
        state(game.table < 0 && !game.over());
        place(game, table);
        game.table = table;
        return game.players[game.at];
    }

    static Outcome tryShot(TreeMap<Integer, Ball> bed, int direction, int force) {
        Outcome outcome = new Outcome();
        outcome.bed = new TreeMap<>();
        for (Ball ball : bed.values()) {
            outcome.bed.put(ball.number, new Ball(ball.number, ball.cell()));
        }
        Ball white = outcome.bed.get(0);
        white.dx = WAYS[direction][0];
        white.dy = WAYS[direction][1];
        white.force = force;
        for (int tick = 1; tick <= 300 && outcome.bed.values().stream().anyMatch(b -> b.force > 0); tick++) {
            for (int b = 0; b < 8; b++) {
                Ball ball = outcome.bed.get(b);
                if (ball != null && ball.force > 0) {
                    step(outcome, ball);
                }
            }
        }
        return outcome;
    }

    private static void step(Outcome outcome, Ball ball) {
        int x = ball.x + ball.dx;
        int y = ball.y + ball.dy;
        boolean isBeyondSide = x < 0 || x > 15;
        boolean isBeyondEnd = y < 0 || y > 7;
        if (isBeyondSide || isBeyondEnd) {
            ball.dx = isBeyondSide ? -ball.dx : ball.dx;
            ball.dy = isBeyondEnd ? -ball.dy : ball.dy;
            ball.force--;
            return;
        }
        for (Ball other : outcome.bed.values()) {
            if (other.x == x && other.y == y) {
                other.dx = ball.dx;
                other.dy = ball.dy;
                int half = ball.force / 2 + ball.force % 2;
                other.force += half;
                ball.force -= half;
                outcome.meets++;
                if (ball.number == 0) {
                    outcome.metByWhite.add(other.number);
                }
                return;
            }
        }
        ball.x = x;
        ball.y = y;
        ball.force--;
        if (POCKETS.contains(ball.cell())) {
            outcome.dropped.add(ball.number);
            outcome.bed.remove(ball.number);
        }
    }

    static boolean isFoul(Game game, Outcome outcome) {
        if (outcome.dropped.contains(0) || outcome.metByWhite.isEmpty()) {
            return true;
        }
        return !game.free && outcome.metByWhite.get(0) != game.on();
    }

    int shoot(int frame, int direction, int power) {
        index(frame, games.size());
        argument(direction >= 0 && direction <= 7);
        argument(power >= 1 && power <= 40);
        Game game = games.get(frame);
        state(game.table >= 0 && !game.over());
        int player = game.players[game.at];
        Outcome outcome = tryShot(game.bed, direction, force(player, power));
        Integer cue = cueByCustomer.get(player);
        if (cue != null) {
            wears[cue] += power / 4 + 1;
            if (wears[cue] > 100) {
                wears[cue] = 100;
            }
        }
        boolean isFoul = isFoul(game, outcome);
        int on = game.on();
        game.bed = outcome.bed;
        if (isFoul) {
            game.at = 1 - game.at;
            int points = on < 4 ? 4 : on;
            game.points[game.at] += points;
            outcome.dropped.sort(null);
            for (int b : outcome.dropped) {
                comeBack(game, b);
            }
            game.free = isHidden(game, on);
            return -points;
        }
        game.free = false;
        int points = outcome.dropped.stream().mapToInt(b -> b).sum();
        game.points[game.at] += points;
        if (game.over()) {
            game.table = -1;
            int leader = game.points[0] == game.points[1] ? game.at : game.points[0] > game.points[1] ? 0 : 1;
            game.winner = game.players[leader];
        }
        if (outcome.dropped.isEmpty()) {
            game.at = 1 - game.at;
        }
        return points;
    }

    private static boolean hasBall(Game game, int cell) {
        return game.bed.values().stream().anyMatch(b -> b.cell() == cell);
    }

    private static void comeBack(Game game, int ball) {
        int cell = SPOTS[ball];
        if (hasBall(game, cell)) {
            cell = 0;
            while (POCKETS.contains(cell) || hasBall(game, cell)) {
                cell++;
            }
        }
        game.bed.put(ball, new Ball(ball, cell));
    }

    /** Each ball that stands in a line with the white one and the ball on, and nearer, hides the latter. */
    private static boolean isHidden(Game game, int on) {
        Ball white = game.bed.get(0);
        Ball aim = game.bed.get(on);
        int dx = aim.x - white.x;
        int dy = aim.y - white.y;
        if (dx != 0 && dy != 0 && Math.abs(dx) != Math.abs(dy)) {
            return true;
        }
        int length = Math.max(Math.abs(dx), Math.abs(dy));
        for (int i = 1; i < length; i++) {
            if (hasBall(game, white.cell() + 16 * (dy / length) * i + dx / length * i)) {
                return true;
            }
        }
        return false;
    }

    int lend(int cue, int customer) {
        index(cue, 6);
        index(customer, 8);
        state(!cueByCustomer.containsValue(cue) && !cueByCustomer.containsKey(customer));
        cueByCustomer.put(customer, cue);
        wearsLent[cue] = wears[cue];
        owed[customer] += 20;
        return wears[cue];
    }

    int takeBack(int cue) {
        index(cue, 6);
        state(cueByCustomer.containsValue(cue));
        int customer = 0;
        while (cueOf(customer) != cue) {
            customer++;
        }
        cueByCustomer.remove(customer);
        int back = 20;
        for (int w = wearsLent[cue] + 5; w <= wears[cue]; w += 5) {
            back--;
        }
        owed[customer] -= back;
        return back;
    }

    int tip(int cue) {
        index(cue, 6);
        state(!cueByCustomer.containsValue(cue));
        int before = wears[cue];
        wears[cue] = 0;
        return before;
    }

    int minute() {
        return now;
    }

    boolean isOpen(int table) {
        index(table, 4);
        return open[table];
    }

    int renter(int table) {
        index(table, 4);
        return renters[table];
    }

    int clock(int table) {
        index(table, 4);
        return clocks[table];
    }

    int frameOn(int table) {
        index(table, 4);
        for (int i = 0; i < games.size(); i++) {
            if (games.get(i).table == table) {
                return i;
            }
        }
        return -1;
    }

    int owes(int customer) {
        index(customer, 8);
        return owed[customer];
    }

    int frames() {
        return games.size();
    }

    int state(int frame) {
        index(frame, games.size());
        Game game = games.get(frame);
        return game.over() ? 2 : game.table < 0 ? 1 : 0;
    }

    int cell(int frame, int ball) {
        index(frame, games.size());
        index(ball, 8);
        Ball found = games.get(frame).bed.get(ball);
        return found == null ? -1 : found.cell();
    }

    int ballOn(int frame) {
        index(frame, games.size());
        return games.get(frame).on();
    }

    boolean isFree(int frame) {
        index(frame, games.size());
        return games.get(frame).free;
    }

    int turn(int frame) {
        index(frame, games.size());
        Game game = games.get(frame);
        return game.over() ? -1 : game.players[game.at];
    }

    int points(int frame, boolean isSecond) {
        index(frame, games.size());
        return games.get(frame).points[isSecond ? 1 : 0];
    }

    int winner(int frame) {
        index(frame, games.size());
        return games.get(frame).winner;
    }

    int contacts(int frame, int direction, int force) {
        index(frame, games.size());
        argument(direction >= 0 && direction <= 7 && force >= 1 && force <= 40);
        return tryShot(games.get(frame).bed, direction, force).meets;
    }

    int wins(int customer) {
        index(customer, 8);
        return (int) games.stream().filter(g -> g.league && g.winner == customer).count();
    }

    int rank(int customer) {
        index(customer, 8);
        int better = 0;
        for (int other = 0; other < 8; other++) {
            better += wins(other) > wins(customer) ? 1 : 0;
        }
        return better;
    }

    int wear(int cue) {
        index(cue, 6);
        return wears[cue];
    }

    int cueOf(int customer) {
        index(customer, 8);
        return cueByCustomer.getOrDefault(customer, -1);
    }

    int force(int customer, int power) {
        index(customer, 8);
        argument(power >= 1 && power <= 40);
        Integer cue = cueByCustomer.get(customer);
        int force = cue == null ? 3 * power / 4 : power * (200 - wears[cue]) / 200;
        return force < 1 ? 1 : force;
    }
}
