import java.util.Random;
import java.util.function.Supplier;

/** Runs of some 512 calls with many arguments, wrong ones too; the class and the model answer alike. */
public final class RandomRunsTest {
    private static final int RUNS = 400;
    /** An object is used for at most so many calls. */
    private static final int MOST_CALLS = 512;
    /** A shot is asked for, and then all balls for their cells. */
    private static final int CALLS_OF_A_SHOT = 9;

    private final Random random;
    private final BaulkHall hall = new BaulkHall();
    private final Model model = new Model();
    private final String run;
    /** How wild a run is: a tame one asks for little that is refused, so that its frames come to an end. */
    private final int wildness;
    /** Whether a run mostly plays one frame behind the other, so that some come to their ends. */
    private final boolean isPlaying;
    private int calls = 0;

    private RandomRunsTest(int seed) {
        random = new Random(seed);
        run = "run " + seed;
        wildness = seed % 4 == 0 ? 12 : 2;
        isPlaying = seed % 2 == 1;
    }

    public static void main(String[] args) {
        int over = 0;
        int ties = 0;
        for (int seed = 0; seed < RUNS; seed++) {
            RandomRunsTest test = new RandomRunsTest(seed);
            while (test.calls <= MOST_CALLS - CALLS_OF_A_SHOT) {
                test.makeCall();
            }
            for (Model.Game game : test.model.games) {
                over += game.over() ? 1 : 0;
                ties += game.over() && game.points[0] == game.points[1] ? 1 : 0;
            }
        }
        System.out.println("frames that were over: " + over + ", with the same points: " + ties);
        Check.same("that the runs end frames", over > 100, true);
        Check.finish("RandomRunsTest");
    }

    /** A number below a bound, now and then one beyond the borders. */
    private int number(int below) {
        if (random.nextInt(100) < wildness) {
            int[] odd = {-1, below, below + 1, -1000, Integer.MAX_VALUE, Integer.MIN_VALUE};
            return odd[random.nextInt(odd.length)];
        }
        return random.nextInt(Math.max(1, below));
    }

    /** The newest frames are played; older ones were left behind or are over. */
    private int aFrame() {
        int count = Math.min(model.frames(), isPlaying ? 1 : 3);
        return model.frames() - count + number(count);
    }

    private void both(String call, Supplier<Object> due, Supplier<Object> got) {
        calls++;
        Check.same(run + ": " + call, outcome(got), outcome(due));
    }

    private static Object outcome(Supplier<Object> call) {
        try {
            return call.get();
        } catch (RuntimeException e) {
            return e.getClass().getName();
        }
    }

    private void makeCall() {
        int kind = random.nextInt(100);
        if (isPlaying && calls > 40 && random.nextInt(10) < 8) {
            frames();
        } else if (kind < 25) {
            tables();
        } else if (kind < 65) {
            frames();
        } else if (kind < 72) {
            cues();
        } else if (kind < 82) {
            askTables();
        } else if (kind < 95) {
            askFrames();
        } else {
            askCues();
        }
    }

    private void tables() {
        int table = number(4);
        int customer = number(8);
        int coins = number(51);
        int minutes = random.nextInt(3) == 0 ? number(200) + 1 : number(12) + 1;
        switch (random.nextInt(10)) {
            case 0 -> both("setPrice(" + coins + ")", () -> model.setPrice(coins), () -> hall.setPrice(coins));
            case 1, 2, 3 -> both("rent(" + table + ", " + customer + ")",
                    () -> model.rent(table, customer), () -> hall.rent(table, customer));
            case 4 -> both("end(" + table + ")", () -> model.end(table), () -> hall.end(table));
            case 5 -> both("tear(" + table + ")", () -> model.tear(table), () -> hall.tear(table));
            case 6, 7 -> both("mend(" + table + ")", () -> model.mend(table), () -> hall.mend(table));
            default -> both("pass(" + minutes + ")", () -> model.pass(minutes), () -> hall.pass(minutes));
        }
    }

    private void frames() {
        int table = number(4);
        int frame = aFrame();
        int kind = random.nextInt(20);
        boolean isBusy = isPlaying && model.frames() > 0 && model.state(model.frames() - 1) != 2;
        if (model.frames() == 0 || (kind == 0 && !isBusy)) {
            boolean isLeague = random.nextBoolean();
            int renter = table >= 0 && table < 4 ? model.renter(table) : 0;
            int first = renter >= 0 && random.nextBoolean() ? renter : number(8);
            int second = number(8);
            both("begin(" + table + ", " + first + ", " + second + ", " + isLeague + ")",
                    () -> model.begin(table, first, second, isLeague),
                    () -> hall.begin(table, first, second, isLeague));
        } else if (kind < 3) {
            both("resume(" + frame + ", " + table + ")",
                    () -> model.resume(frame, table), () -> hall.resume(frame, table));
        } else {
            shoot();
        }
    }

    private void shoot() {
        int frame = aFrame();
        int[] shot = {number(8), number(40) + 1};
        if (frame >= 0 && frame < model.frames() && random.nextInt(10) < (isPlaying ? 9 : 7)) {
            shot = goodShot(frame, shot);
        }
        int direction = shot[0];
        int power = shot[1];
        both("shoot(" + frame + ", " + direction + ", " + power + ")",
                () -> model.shoot(frame, direction, power), () -> hall.shoot(frame, direction, power));
        if (frame >= 0 && frame < model.frames() && random.nextInt(isPlaying ? 8 : 2) == 0) {
            calls += 7;
            both("cells of " + frame, () -> cells(b -> model.cell(frame, b)), () -> cells(b -> hall.cell(frame, b)));
        }
    }

    private static String cells(java.util.function.IntUnaryOperator cell) {
        StringBuilder text = new StringBuilder();
        for (int ball = 0; ball < 8; ball++) {
            text.append(cell.applyAsInt(ball)).append(' ');
        }
        return text.toString();
    }

    /** The first shot that drops a ball without a foul, from a random one on; otherwise the last without a foul. */
    private int[] goodShot(int frame, int[] other) {
        Model.Game game = model.games.get(frame);
        if (game.over()) {
            return other;
        }
        int[] best = other;
        int start = random.nextInt(320);
        for (int i = 0; i < 320; i++) {
            int direction = (start + i) % 320 / 40;
            int power = (start + i) % 40 + 1;
            int force = model.force(game.players[game.at], power);
            Model.Outcome outcome = Model.tryShot(game.bed, direction, force);
            if (!Model.isFoul(game, outcome)) {
                best = new int[] {direction, power};
                if (!outcome.dropped.isEmpty()) {
                    return best;
                }
            }
        }
        return best;
    }

    private void cues() {
        int cue = number(6);
        int customer = number(8);
        switch (random.nextInt(4)) {
            case 0 -> both("takeBack(" + cue + ")", () -> model.takeBack(cue), () -> hall.takeBack(cue));
            case 1 -> both("tip(" + cue + ")", () -> model.tip(cue), () -> hall.tip(cue));
            default -> both("lend(" + cue + ", " + customer + ")",
                    () -> model.lend(cue, customer), () -> hall.lend(cue, customer));
        }
    }

    private void askTables() {
        int table = number(4);
        int customer = number(8);
        switch (random.nextInt(7)) {
            case 0 -> both("minute()", model::minute, hall::minute);
            case 1 -> both("isOpen(" + table + ")", () -> model.isOpen(table), () -> hall.isOpen(table));
            case 2 -> both("renter(" + table + ")", () -> model.renter(table), () -> hall.renter(table));
            case 3 -> both("clock(" + table + ")", () -> model.clock(table), () -> hall.clock(table));
            case 4 -> both("frameOn(" + table + ")", () -> model.frameOn(table), () -> hall.frameOn(table));
            case 5 -> both("owes(" + customer + ")", () -> model.owes(customer), () -> hall.owes(customer));
            default -> both("owesAnew(" + customer + ")", () -> model.owes(customer), () -> hall.owesAnew(customer));
        }
    }

    private void askFrames() {
        int frame = number(model.frames());
        int ball = number(8);
        int customer = number(8);
        int direction = number(8);
        int force = number(40) + 1;
        boolean isSecond = random.nextBoolean();
        String shot = frame + ", " + direction + ", " + force + ")";
        switch (random.nextInt(12)) {
            case 0 -> both("frames()", model::frames, hall::frames);
            case 1 -> both("state(" + frame + ")", () -> model.state(frame), () -> hall.state(frame));
            case 2 -> both("cell(" + frame + ", " + ball + ")",
                    () -> model.cell(frame, ball), () -> hall.cell(frame, ball));
            case 3 -> both("ballOn(" + frame + ")", () -> model.ballOn(frame), () -> hall.ballOn(frame));
            case 4 -> both("isFree(" + frame + ")", () -> model.isFree(frame), () -> hall.isFree(frame));
            case 5 -> both("turn(" + frame + ")", () -> model.turn(frame), () -> hall.turn(frame));
            case 6 -> both("points(" + frame + ", " + isSecond + ")",
                    () -> model.points(frame, isSecond), () -> hall.points(frame, isSecond));
            case 7 -> both("winner(" + frame + ")", () -> model.winner(frame), () -> hall.winner(frame));
            case 8 -> both("contacts(" + shot,
                    () -> model.contacts(frame, direction, force), () -> hall.contacts(frame, direction, force));
            case 9 -> both("contactsByPairs(" + shot,
                    () -> model.contacts(frame, direction, force),
                    () -> hall.contactsByPairs(frame, direction, force));
            case 10 -> both("wins(" + customer + ")", () -> model.wins(customer), () -> hall.wins(customer));
            default -> both("rank(" + customer + ")", () -> model.rank(customer), () -> hall.rank(customer));
        }
    }

    private void askCues() {
        int cue = number(6);
        int customer = number(8);
        int power = number(40) + 1;
        switch (random.nextInt(3)) {
            case 0 -> both("wear(" + cue + ")", () -> model.wear(cue), () -> hall.wear(cue));
            case 1 -> both("cueOf(" + customer + ")", () -> model.cueOf(customer), () -> hall.cueOf(customer));
            default -> both("force(" + customer + ", " + power + ")",
                    () -> model.force(customer, power), () -> hall.force(customer, power));
        }
    }
}
