import java.util.ArrayList;
import java.util.List;

/**
 * Every method with all mixes of arguments at, inside and outside their bounds, in a new, a busy and a full
 * state: of several refusals the first in the document's order is due, and behind it nothing has changed.
 */
public final class RefusalsTest {
    private static final int UNKNOWN = -1000000001, OUTSIDE = -1000000002, NOT = -1000000003, FULL = -1000000004;
    private static final int TAKEN = 0, MAX = Integer.MAX_VALUE, MIN = Integer.MIN_VALUE;
    private static final int FREE = 0, HELD = 1, OUT = 2;
    private static final int AT_ONCE = 40;
    private static final int[] NUMBERS = {MIN, -1000000001, -2, -1, 0, 1, 2, 3, 4, 5, 6, 7, 8, 32, 256, 65536, MAX};
    private static final int[] GROUPS = {MIN, -1, 0, 1, 2, 3, 4, 32, MAX};
    private static final int[] LINES = {MIN, -1, 0, 1, 2, 3, 5, 6, 32, MAX};

    /** What the document says is so behind the rows: the state of each line of each group, and the rest. */
    private record State(String rows, int[][] lines, int entries, int undoable, boolean[] kept) {
        boolean isGroup(int g) {
            return g >= 0 && g < lines.length;
        }

        boolean isLine(int g, int l) {
            return isGroup(g) && l >= 0 && l < lines[g].length;
        }
    }

    private static final State NEW = new State("", new int[][] {{FREE, FREE, FREE}, {FREE, FREE, FREE}}, 0, 0,
        new boolean[] {false, false});
    private static final State BUSY = new State("build(3); shape(0, 2, 6, 1, 1, 3); shape(1, 6, 0, 6, NONE, 2); call(0); "
        + "call(0); call(1); call(1); end(1, 0); damage(1, 5); damage(2, 0); write(1, 0, 0); write(2, 0, 2); seed(99); "
        + "keep(1); call(2); call(1)",
        new int[][] {{HELD, HELD}, {FREE, HELD, HELD, FREE, FREE, OUT}, {OUT, HELD, FREE}}, 2, 2,
        new boolean[] {false, true});
    private static final State ALL_FULL = new State("build(1); shape(0, 1, 6, 1, NONE, 3); keep(0); "
        + "write(0, 0, 1); ".repeat(20) + "call(0); ".repeat(21) + "seed(2147483647)",
        new int[][] {{HELD}}, 20, 20, new boolean[] {true, false});

    private final Checks checks;
    private final State state;
    private final List<Call> past = new ArrayList<>();
    private final List<Call> refused = new ArrayList<>();
    private final List<Long> untouched;

    private RefusalsTest(Checks checks, State state) {
        this.checks = checks;
        this.state = state;
        for (String row : state.rows.split(";")) {
            if (!row.isBlank()) {
                past.add(Call.read(row));
            }
        }
        this.untouched = Trace.behind(past);
    }

    public static void main(String[] args) {
        Checks checks = new Checks();
        for (State state : new State[] {NEW, BUSY, ALL_FULL}) {
            RefusalsTest test = new RefusalsTest(checks, state);
            test.ofOneNumber();
            test.ofGroups();
            test.ofLines();
            test.ofShapes();
            test.inTheLongRun();
            test.nothingHasChanged();
        }
        checks.finish();
    }

    private static boolean isWithin(int v, int least, int most) {
        return v >= least && v <= most;
    }

    /** The order of the document: UNKNOWN, OUTSIDE, NOT, FULL. */
    private static int first(boolean unknown, boolean outside, boolean not, boolean full) {
        return unknown ? UNKNOWN : outside ? OUTSIDE : not ? NOT : full ? FULL : TAKEN;
    }

    private void due(int refusal, String name, int... args) {
        Call call = Call.of(name, args);
        TrunkReserve x = new TrunkReserve();
        for (Call ahead : past) {
            ahead.on(x);
        }
        long got = call.on(x);
        if (refusal == TAKEN) {
            checks.holds(call + " answered " + got + ", it is not to be refused", !Script.isRefusal(got));
            return;
        }
        checks.due(call.toString(), got, refusal);
        refused.add(call);
    }

    private void ofOneNumber() {
        for (int v : NUMBERS) {
            due(first(false, !isWithin(v, 0, 8), false, false), "told", v);
            due(first(false, !isWithin(v, 1, 4), false, false), "build", v);
            due(first(false, v < 0, false, false), "seed", v);
            due(first(!isWithin(v, 0, 1), false, false, false), "keep", v);
            due(first(!isWithin(v, 0, 1), false, isWithin(v, 0, 1) && !state.kept[v], false), "goBack", v);
        }
        for (int n : new int[] {MIN, -1, 0, 1, 2, 3, 18, 19, 20, 21, 22, 32, 256, MAX}) {
            due(first(false, !isWithin(n, 1, 20), false, false), "drift", n);
            due(first(false, !isWithin(n, 1, 20), n > state.undoable, false), "undo", n);
        }
        due(TAKEN, "tear");
    }

    private void ofGroups() {
        for (int g : GROUPS) {
            boolean unknown = !state.isGroup(g);
            due(first(unknown, false, false, false), "call", g);
            for (int what : new int[] {MIN, -1, 0, 1, 7, 12, 13, 14, 15, 16, 256, MAX}) {
                due(first(unknown, !isWithin(what, 0, 14), false, false), "group", g, what);
            }
            for (int what : new int[] {MIN, -1, 0, 1, 2, 3, 4, 5, 256, MAX}) {
                due(first(unknown, !isWithin(what, 0, 3), false, false), "over", g, what);
            }
        }
    }

    private void ofLines() {
        for (int g : GROUPS) {
            for (int l : LINES) {
                boolean unknown = !state.isLine(g, l);
                int is = unknown ? FREE : state.lines[g][l];
                due(first(unknown, false, is != HELD, false), "end", g, l);
                due(first(unknown, false, is == OUT, false), "damage", g, l);
                due(first(unknown, false, is != OUT, false), "mend", g, l);
                for (int what : new int[] {MIN, -1, 0, 1, 2, 3, 4, 256, MAX}) {
                    boolean outside = !isWithin(what, 0, 2);
                    due(first(unknown, outside, false, false), "line", g, l, what);
                    due(first(unknown, outside, false, state.entries >= 20), "write", g, l, what);
                }
            }
        }
    }

    private void ofShapes() {
        for (int g : new int[] {-1, 0, 1, 2, 3}) {
            for (int over : new int[] {MIN, -2, -1, 0, 1, 2, 3, MAX}) {
                boolean unknown = !state.isGroup(g) || over == g || (over != -1 && !state.isGroup(over));
                for (int n : new int[] {0, 1, 6, 7}) {
                    for (int a : new int[] {-1, 0, 6, 7}) {
                        for (int reserve : new int[] {-1, 0, n, n + 1}) {
                            for (int choice : new int[] {-1, 0, 3, 4}) {
                                boolean outside = !isWithin(n, 1, 6) || !isWithin(a, 0, 6)
                                    || !isWithin(reserve, 0, n) || !isWithin(choice, 0, 3);
                                due(first(unknown, outside, false, false), "shape", g, n, a, reserve, over, choice);
                            }
                        }
                    }
                }
            }
        }
    }

    private void inTheLongRun() {
        for (int g : GROUPS) {
            for (int b : new int[] {MIN, -1, 0, 1, 5, 6, 7, 256, MAX}) {
                for (int what : new int[] {MIN, -1, 0, 1, 2, 3, 4, 5, 6, 7, 256, MAX}) {
                    due(first(!state.isGroup(g), !isWithin(b, 0, 6) || !isWithin(what, 0, 5), false, false), "run", g, b, what);
                }
                for (int p : new int[] {MIN, -1, 0, 1, 2, 998, 999, 1000, 1001, 65537, MAX}) {
                    boolean outside = !isWithin(b, 0, 6) || !isWithin(p, 1, 999);
                    due(first(!state.isGroup(g), outside, false, false), "linesFor", g, b, p);
                    due(first(!state.isGroup(g), outside, false, false), "bestReserve", g, b, p);
                }
            }
        }
    }

    /** Some at once, so that none of the objects looked at makes more calls than the document allows. */
    private void nothingHasChanged() {
        for (int from = 0; from < refused.size(); from += AT_ONCE) {
            List<Call> some = refused.subList(from, Math.min(from + AT_ONCE, refused.size()));
            List<Call> longer = new ArrayList<>(past);
            longer.addAll(some);
            checks.holds("refused, these change nothing: " + some, Trace.behind(longer).equals(untouched));
        }
    }
}
