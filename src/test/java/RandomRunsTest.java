import java.util.ArrayList;
import java.util.List;
import java.util.Random;

/**
 * Runs of calls, drawn with fixed seeds and now and then with wrong inputs, held against Model. To look at all there
 * is takes a twin that went through the same deeds, so that no object is used for more than 512 calls.
 */
public final class RandomRunsTest {
    private static final int RUNS = 4000, STEPS = 56, MOST_CALLS = 512;

    private final Checks checks;
    private final Random random;
    private final TrunkReserve real = new TrunkReserve();
    private final Model model = new Model();
    private final List<Call> deeds = new ArrayList<>();
    private final String run;
    private int calls;

    private RandomRunsTest(Checks checks, int seed) {
        this.checks = checks;
        this.random = new Random(seed);
        this.run = "run " + seed + ": ";
    }

    public static void main(String[] args) {
        Checks checks = new Checks();
        for (int seed = 0; seed < RUNS && checks.allRight(); seed++) {
            new RandomRunsTest(checks, seed).play();
        }
        checks.finish();
    }

    private void play() {
        for (int i = 0; i < STEPS && checks.allRight(); i++) {
            deed();
            ask();
            if (i % 11 == 0) {
                lookAtAll(twin());
            }
        }
        checks.holds(run + "no more than 512 calls: " + calls, calls <= MOST_CALLS);
    }

    private TrunkReserve twin() {
        TrunkReserve x = new TrunkReserve();
        for (Call deed : deeds) {
            deed.on(x);
        }
        return x;
    }

    /** Mostly least .. most, at times beside them or far off. */
    private int near(int least, int most) {
        int dice = random.nextInt(40);
        if (dice == 0) {
            return least - 1;
        }
        if (dice == 1) {
            return most + 1;
        }
        if (dice == 2) {
            return random.nextBoolean() ? Integer.MAX_VALUE : Integer.MIN_VALUE;
        }
        return least + random.nextInt(most - least + 1);
    }

    private int aGroup() {
        return near(0, Math.max(0, model.told(0) - 1));
    }

    private int aLine(int g) {
        int n = model.group(g, 0);
        return near(0, n > 0 ? n - 1 : 5);
    }

    private void deed() {
        int g = aGroup();
        int l = aLine(g);
        int n = near(1, 20);
        switch (random.nextInt(16)) {
            case 0 -> {
                int groups = near(1, 4);
                if (random.nextInt(3) == 0) {
                    did("build(" + groups + ")", real.build(groups), model.build(groups));
                }
            }
            case 1, 2 -> shape(g);
            case 3, 4, 5, 6, 7 -> did("call(" + g + ")", real.call(g), model.call(g));
            case 8, 9 -> did("end" + at(g, l), real.end(g, l), model.end(g, l));
            case 10 -> did("damage" + at(g, l), real.damage(g, l), model.damage(g, l));
            case 11 -> did("mend" + at(g, l), real.mend(g, l), model.mend(g, l));
            case 12 -> did("drift(" + n + ")", real.drift(n), model.drift(n));
            case 13 -> {
                int m = random.nextInt(3) == 0 ? n : near(1, 3);
                did("undo(" + m + ")", real.undo(m), model.undo(m));
            }
            case 14 -> {
                int is = near(0, 2);
                did("write(" + g + ", " + l + ", " + is + ")", real.write(g, l, is), model.write(g, l, is));
                if (random.nextInt(30) == 0) {
                    did("tear()", real.tear(), model.tear());
                }
            }
            default -> image();
        }
    }

    private void shape(int g) {
        int n = near(1, 6);
        int a = near(0, 6);
        int reserve = random.nextInt(30) == 0 ? near(0, 6) : random.nextInt(Math.max(1, Math.min(n, 6) + 1));
        int over = random.nextInt(4) == 0 ? -1 : aGroup();
        int choice = near(0, 3);
        did("shape(" + g + ", " + n + ", " + a + ", " + reserve + ", " + over + ", " + choice + ")",
            real.shape(g, n, a, reserve, over, choice), model.shape(g, n, a, reserve, over, choice));
    }

    private void image() {
        int i = near(0, 1);
        switch (random.nextInt(3)) {
            case 0 -> did("keep(" + i + ")", real.keep(i), model.keep(i));
            case 1 -> did("goBack(" + i + ")", real.goBack(i), model.goBack(i));
            default -> {
                int v = random.nextInt();
                did("seed(" + v + ")", real.seed(v), model.seed(v));
            }
        }
    }

    private void ask() {
        int g = aGroup();
        int b = near(0, 6);
        int p = near(1, 999);
        int what = near(0, 14);
        due("group" + at(g, what), real.group(g, what), model.group(g, what));
        what = near(0, 8);
        due("told(" + what + ")", real.told(what), model.told(what));
        int l = aLine(g);
        what = near(0, 2);
        due("line" + at(g, l), real.line(g, l, what), model.line(g, l, what));
        what = near(0, 5);
        due("run(" + g + ", " + b + ", " + what + ")", real.run(g, b, what), model.run(g, b, what));
        what = near(0, 3);
        due("over" + at(g, what), real.over(g, what), model.over(g, what));
        due("linesFor(" + g + ", " + b + ", " + p + ")", real.linesFor(g, b, p), model.linesFor(g, b, p));
        due("bestReserve(" + g + ", " + b + ", " + p + ")", real.bestReserve(g, b, p), model.bestReserve(g, b, p));
    }

    private void lookAtAll(TrunkReserve twin) {
        for (int what = -1; what <= 9; what++) {
            sees("told(" + what + ")", twin.told(what), model.told(what));
        }
        for (int g = -1; g <= 4; g++) {
            for (int what = -1; what <= 15; what++) {
                sees("group" + at(g, what), twin.group(g, what), model.group(g, what));
            }
            for (int l = -1; l <= 6; l++) {
                for (int what = -1; what <= 3; what++) {
                    sees("line" + at(g, l) + what, twin.line(g, l, what), model.line(g, l, what));
                }
            }
        }
    }

    private static String at(int g, int l) {
        return "(" + g + ", " + l + ")";
    }

    private void did(String call, long got, long want) {
        deeds.add(Call.read(call));
        due(call, got, want);
    }

    private void due(String call, long got, long want) {
        calls++;
        checks.due(run + call, got, want);
    }

    private void sees(String call, long got, long want) {
        checks.due(run + "twin behind " + deeds.size() + " deeds: " + call, got, want);
    }
}
