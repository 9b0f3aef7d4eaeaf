/** Each promise of the document: ordinary inputs, the edges it names, wrong inputs; worked out by hand. */
public final class PromisesTest {
    private static final int NONE = -1, UNKNOWN = -1000000001, OUTSIDE = -1000000002, NOT = -1000000003, FULL = -1000000004;
    private static final int FAR = Integer.MAX_VALUE, FAR_BELOW = Integer.MIN_VALUE;
    private static final Checks CHECKS = new Checks();

    public static void main(String[] args) {
        aNewObject();
        told();
        group();
        groupTogether();
        line();
        build();
        shape();
        call();
        callByChoice();
        callOver();
        end();
        damage();
        mend();
        drift();
        undo();
        run();
        over();
        linesFor();
        bestReserve();
        write();
        tear();
        seed();
        keep();
        goBack();
        refusalsChangeNothing();
        CHECKS.finish();
    }

    private static void due(String call, long got, long want) {
        CHECKS.due(call, got, want);
    }

    private static void groupIs(String when, TrunkReserve x, int g, int from, int... wants) {
        for (int i = 0; i < wants.length; i++) {
            due(when + ": group(" + g + ", " + (from + i) + ")", x.group(g, from + i), wants[i]);
        }
    }

    private static void toldIs(String when, TrunkReserve x, int... wants) {
        for (int i = 0; i < wants.length; i++) {
            due(when + ": told(" + i + ")", x.told(i), wants[i]);
        }
    }

    private static void lineIs(String when, TrunkReserve x, int g, int l, int... wants) {
        for (int i = 0; i < wants.length; i++) {
            due(when + ": line(" + g + ", " + l + ", " + i + ")", x.line(g, l, i), wants[i]);
        }
    }

    private static void callsGo(String when, TrunkReserve x, int g, int... wants) {
        for (int i = 0; i < wants.length; i++) {
            due(when + ": next, " + i, x.group(g, 12), wants[i]);
            due(when + ": call " + i, x.call(g), wants[i]);
        }
    }

    // promise 1
    private static void aNewObject() {
        TrunkReserve x = new TrunkReserve();
        toldIs("new", x, 2, 0, 0, 0, 0, 1, 0, NONE, 0);
        for (int g = 0; g < 2; g++) {
            groupIs("new", x, g, 0, 3, 2, 0, NONE, 0, 7, 0, 0, 0, 0, 0, 0, 10 * g, 0, 210);
            for (int l = 0; l < 3; l++) {
                lineIs("new", x, g, l, 0, NONE, NONE);
            }
        }
        due("new: group(2, 0)", x.group(2, 0), UNKNOWN);
        due("new: seed", x.seed(0), 0);
    }

    // promise 2
    private static void told() {
        TrunkReserve x = new TrunkReserve();
        x.shape(0, 1, 2, 0, NONE, 0);
        x.call(0);
        x.call(0);
        x.call(1);
        x.damage(1, 2);
        x.damage(1, 0);
        x.mend(1, 2);
        x.write(0, 0, 1);
        x.write(1, 1, 1);
        toldIs("told", x, 2, 6, 3, 1, 2, 1, 2, 1, 7);
        due("told(-1)", x.told(-1), OUTSIDE);
        due("told(9)", x.told(9), OUTSIDE);
        due("told(far)", x.told(FAR), OUTSIDE);
        due("told(far below)", x.told(FAR_BELOW), OUTSIDE);
    }

    // promise 3
    private static void group() {
        TrunkReserve x = new TrunkReserve();
        x.shape(0, 2, 5, 1, 1, 3);
        callsGo("group", x, 0, 0, 1, 10);
        x.damage(0, 1);
        x.end(0, 0);
        x.damage(1, 2);
        groupIs("group", x, 0, 0, 2, 5, 1, 1, 3, 1, 0, 2, 3, 2, 1, 1, 0);
        groupIs("group", x, 1, 0, 3, 2, 0, NONE, 0, 2, 1, 4, 0, 0, 0, 0, 11);
        due("group(-1, 0)", x.group(-1, 0), UNKNOWN);
        due("group(2, 0)", x.group(2, 0), UNKNOWN);
        due("group(far, 0)", x.group(FAR, 0), UNKNOWN);
        due("group(far below, 99)", x.group(FAR_BELOW, 99), UNKNOWN);
        due("group(0, -1)", x.group(0, -1), OUTSIDE);
        due("group(0, 15)", x.group(0, 15), OUTSIDE);
        due("group(0, far)", x.group(0, FAR), OUTSIDE);
    }

    // promise 3, section 2: all groups together
    private static void groupTogether() {
        due("P asked first of all", new TrunkReserve().group(1, 14), 210);
        TrunkReserve x = new TrunkReserve();
        // Group 0: weights 1000000, 1000000: P 500. Group 1 then has B 500 and, without reserve,
        // weights 1000000, 1500000: P 600.
        x.shape(0, 1, 1, 0, 1, 0);
        x.shape(1, 1, 1, 0, NONE, 0);
        due("together: rounds", x.told(5), 2);
        groupIs("together", x, 0, 13, 0, 500);
        groupIs("together", x, 1, 13, 500, 600);
        // All lines held back: what comes over changes nothing.
        x.shape(1, 1, 1, 1, NONE, 0);
        groupIs("together, reserve", x, 1, 13, 500, 500);
        // Each over the other: B becomes 500, 600, 615, 617, and 617 again.
        x.shape(1, 1, 1, 0, 0, 0);
        due("together, ring: rounds", x.told(5), 5);
        due("together, ring: rounds, asked again", x.told(5), 5);
        groupIs("together, ring", x, 0, 13, 617, 617);
        groupIs("together, ring", x, 1, 13, 617, 617);
        // Two over one, no load of its own: B 500 and 2 times 666.
        x.build(3);
        x.shape(0, 1, 1, 0, 2, 0);
        x.shape(1, 1, 2, 0, 2, 0);
        x.shape(2, 1, 0, 0, NONE, 0);
        groupIs("together, two over one", x, 2, 13, 1832, 646);
        // Calls and lines out of order do not matter in the long run.
        x.call(0);
        x.damage(2, 0);
        groupIs("together, later", x, 2, 13, 1832, 646);
    }

    // promise 4
    private static void line() {
        TrunkReserve x = new TrunkReserve();
        x.shape(0, 1, 2, 0, 1, 0);
        x.call(1);
        x.call(0);
        x.call(0);
        x.damage(1, 2);
        lineIs("line", x, 0, 0, 1, 1, 0);
        lineIs("line", x, 1, 0, 1, 0, 1);
        lineIs("line, over", x, 1, 1, 1, 2, 0);
        lineIs("line, out", x, 1, 2, 2, NONE, NONE);
        due("line(0, 1, 0)", x.line(0, 1, 0), UNKNOWN);
        due("line(0, -1, 0)", x.line(0, -1, 0), UNKNOWN);
        due("line(-1, 0, 0)", x.line(-1, 0, 0), UNKNOWN);
        due("line(2, 0, 0)", x.line(2, 0, 0), UNKNOWN);
        due("line(1, 3, 7)", x.line(1, 3, 7), UNKNOWN);
        due("line(1, far, 0)", x.line(1, FAR, 0), UNKNOWN);
        due("line(0, 0, -1)", x.line(0, 0, -1), OUTSIDE);
        due("line(0, 0, 3)", x.line(0, 0, 3), OUTSIDE);
    }

    // promise 5
    private static void build() {
        TrunkReserve x = new TrunkReserve();
        x.seed(77);
        x.write(1, 0, 0);
        x.shape(0, 1, 6, 1, 1, 3);
        callsGo("ahead of build", x, 0, 0, 10);
        x.damage(0, 0);
        due("build(4)", x.build(4), 2);
        toldIs("built", x, 4, 0, 0, 0, 0, 1, 1, NONE, 5);
        for (int g = 0; g < 4; g++) {
            groupIs("built", x, g, 0, 3, 2, 0, NONE, 0, 7, 0, 0, 0, 0, 0, 0, 10 * g, 0, 210);
        }
        lineIs("built", x, 1, 0, 0, NONE, NONE);
        due("build(1)", x.build(1), 4);
        due("group(1, 0)", x.group(1, 0), UNKNOWN);
        due("the line in the book is no more", x.told(7), 0);
        due("build(1) again", x.build(1), 1);
        due("build(0)", x.build(0), OUTSIDE);
        due("build(5)", x.build(5), OUTSIDE);
        due("build(-1)", x.build(-1), OUTSIDE);
        due("build(far)", x.build(FAR), OUTSIDE);
        due("as many groups as ahead", x.told(0), 1);
        due("undone thrice", x.undo(3), 3);
        groupIs("build undone", x, 0, 0, 1, 6, 1, 1, 3, 0, 0, 1, 2, 1, 1, 1, 11);
        due("the seed stays", x.seed(0), 77);
    }

    // promise 6
    private static void shape() {
        TrunkReserve x = new TrunkReserve();
        x.shape(0, 2, 2, 0, 1, 0);
        callsGo("ahead of shape", x, 0, 0, 1, 10);
        callsGo("ahead of shape", x, 1, 11);
        x.damage(1, 2);
        due("shape(1)", x.shape(1, 6, 0, 6, 0, 2), 2);
        groupIs("shaped", x, 1, 0, 6, 0, 6, 0, 2, 63, 0, 0, 1, 1, 0, 0, 10);
        groupIs("the other", x, 0, 0, 2, 2, 0, 1, 0, 0, 3, 0, 3, 2, 1, 0, NONE);
        toldIs("shaped", x, 2, 5, 4, 2, 0);
        due("shape, least", x.shape(1, 1, 0, 0, NONE, 0), 0);
        due("shape, most", x.shape(0, 6, 6, 6, 1, 3), 2);
        due("a call's number goes on", x.call(1), 10);
        lineIs("a call's number goes on", x, 1, 0, 1, 4, 1);
        due("shape of no group", x.shape(2, 3, 2, 0, NONE, 0), UNKNOWN);
        due("shape of group -1", x.shape(-1, 3, 2, 0, NONE, 0), UNKNOWN);
        due("shape over itself", x.shape(0, 3, 2, 0, 0, 0), UNKNOWN);
        due("shape over no group", x.shape(0, 3, 2, 0, 2, 0), UNKNOWN);
        due("shape over -2", x.shape(0, 3, 2, 0, -2, 0), UNKNOWN);
        due("shape, unknown first", x.shape(0, 0, 9, -1, 5, 4), UNKNOWN);
        due("shape, n 0", x.shape(0, 0, 2, 0, NONE, 0), OUTSIDE);
        due("shape, n 7", x.shape(0, 7, 2, 0, NONE, 0), OUTSIDE);
        due("shape, a -1", x.shape(0, 3, -1, 0, NONE, 0), OUTSIDE);
        due("shape, a 7", x.shape(0, 3, 7, 0, NONE, 0), OUTSIDE);
        due("shape, reserve -1", x.shape(0, 3, 2, -1, NONE, 0), OUTSIDE);
        due("shape, reserve over n", x.shape(0, 3, 2, 4, NONE, 0), OUTSIDE);
        due("shape, choice -1", x.shape(0, 3, 2, 0, NONE, -1), OUTSIDE);
        due("shape, choice 4", x.shape(0, 3, 2, 0, NONE, 4), OUTSIDE);
        groupIs("refused shapes change nothing", x, 0, 0, 6, 6, 6, 1, 3);
    }

    // promise 7
    private static void call() {
        TrunkReserve x = new TrunkReserve();
        callsGo("call", x, 1, 10, 11, 12, NONE);
        groupIs("call", x, 1, 8, 4, 3, 0, 1);
        lineIs("call", x, 1, 2, 1, 2, 1);
        callsGo("lost calls are numbered too", x, 0, 0);
        lineIs("lost calls are numbered too", x, 0, 0, 1, 4, 0);
        toldIs("call", x, 2, 5, 5, 4, 1);
        due("call(2)", x.call(2), UNKNOWN);
        due("call(-1)", x.call(-1), UNKNOWN);
        due("call(far)", x.call(FAR), UNKNOWN);
        due("call(far below)", x.call(FAR_BELOW), UNKNOWN);
    }

    // promise 7, section 1: the four choices
    private static void callByChoice() {
        TrunkReserve x = new TrunkReserve();
        x.damage(0, 0);
        callsGo("the first", x, 0, 1, 2);
        x.shape(0, 4, 2, 0, NONE, 1);
        x.damage(0, 3);
        callsGo("the last", x, 0, 2, 1);
        x.end(0, 2);
        callsGo("the last", x, 0, 2, 0, NONE);
        x.shape(0, 4, 2, 0, NONE, 2);
        callsGo("free the longest", x, 0, 0, 1, 2);
        x.end(0, 2);
        x.end(0, 0);
        x.end(0, 1);
        callsGo("free the longest", x, 0, 3, 2, 0, 1);
        x.end(0, 3);
        x.end(0, 0);
        x.damage(0, 3);
        x.mend(0, 3);
        callsGo("free since it was mended", x, 0, 0, 3);
        x.shape(0, 4, 2, 0, NONE, 3);
        callsGo("ring", x, 0, 0);
        x.end(0, 0);
        callsGo("ring", x, 0, 1);
        x.damage(0, 2);
        callsGo("ring, a line out", x, 0, 3, 0);
        x.end(0, 0);
        callsGo("ring, round to itself", x, 0, 0, NONE);
        x.shape(0, 4, 2, 0, NONE, 3);
        x.damage(0, 0);
        callsGo("ring, as at the beginning", x, 0, 1);
    }

    // promise 7, section 1: over another group, once, and its reserve
    private static void callOver() {
        TrunkReserve x = new TrunkReserve();
        x.build(3);
        x.shape(0, 1, 2, 0, 1, 3);
        x.shape(1, 3, 2, 1, 2, 1);
        callsGo("over", x, 0, 0, 12, 11, NONE);
        groupIs("over", x, 0, 8, 4, 1, 2, 1);
        groupIs("over", x, 1, 8, 0, 0, 0, 0);
        callsGo("its own calls take the reserve", x, 1, 10);
        callsGo("not over twice", x, 0, NONE);
        callsGo("its own go on over", x, 1, 20);
        x.end(1, 0);
        callsGo("as many free as the reserve", x, 0, NONE);
        x.end(1, 1);
        callsGo("one more free than the reserve", x, 0, 11);
        x.shape(1, 3, 2, 3, NONE, 0);
        callsGo("all held back", x, 0, NONE);
        x.shape(1, 1, 2, 0, NONE, 0);
        callsGo("none held back", x, 0, 10, NONE);
        x.shape(1, 3, 2, 0, NONE, 3);
        callsGo("the ring goes on behind a call that came over", x, 0, 10);
        callsGo("the ring goes on behind a call that came over", x, 1, 11);
        x.end(1, 0);
        callsGo("the ring goes on behind a call that came over", x, 0, 12);
        x.damage(1, 0);
        callsGo("what is out is not free", x, 0, NONE);
    }

    // promise 8
    private static void end() {
        TrunkReserve x = new TrunkReserve();
        x.shape(0, 1, 2, 0, 1, 0);
        callsGo("ahead of end", x, 0, 0, 10);
        due("end(1, 0)", x.end(1, 0), 1);
        lineIs("ended", x, 1, 0, 0, NONE, NONE);
        toldIs("ended", x, 2, 3, 2, 1, 0);
        groupIs("ended", x, 0, 8, 2, 1, 1, 0);
        due("end(1, 0) again", x.end(1, 0), NOT);
        x.damage(1, 2);
        due("end of a line that is out", x.end(1, 2), NOT);
        due("end(0, 1)", x.end(0, 1), UNKNOWN);
        due("end(0, -1)", x.end(0, -1), UNKNOWN);
        due("end(2, 0)", x.end(2, 0), UNKNOWN);
        due("end(-1, 0)", x.end(-1, 0), UNKNOWN);
        due("end(far, far)", x.end(FAR, FAR), UNKNOWN);
    }

    // promise 9
    private static void damage() {
        TrunkReserve x = new TrunkReserve();
        x.shape(0, 1, 2, 0, 1, 0);
        callsGo("ahead of damage", x, 0, 0, 10);
        due("damage of a held line", x.damage(1, 0), 1);
        groupIs("the call was another group's", x, 0, 8, 2, 1, 1, 1);
        groupIs("the call was another group's", x, 1, 8, 0, 0, 0, 0);
        lineIs("broken", x, 1, 0, 2, NONE, NONE);
        due("damage of a free line", x.damage(1, 1), NONE);
        toldIs("damage", x, 2, 4, 2, 1, 1);
        groupIs("damage", x, 1, 5, 4, 0, 3);
        due("damage again", x.damage(1, 1), NOT);
        due("damage(1, 3)", x.damage(1, 3), UNKNOWN);
        due("damage(1, -1)", x.damage(1, -1), UNKNOWN);
        due("damage(2, 0)", x.damage(2, 0), UNKNOWN);
        due("damage(far below, 0)", x.damage(FAR_BELOW, 0), UNKNOWN);
        due("TIME", x.told(1), 4);
    }

    // promise 10
    private static void mend() {
        TrunkReserve x = new TrunkReserve();
        x.call(0);
        x.damage(0, 0);
        x.damage(0, 1);
        due("mend(0, 0)", x.mend(0, 0), 2);
        lineIs("mended", x, 0, 0, 0, NONE, NONE);
        due("mend(0, 1)", x.mend(0, 1), 3);
        due("TIME", x.told(1), 5);
        due("mend of a free line", x.mend(0, 0), NOT);
        x.call(0);
        due("mend of a held line", x.mend(0, 0), NOT);
        due("mend(0, 3)", x.mend(0, 3), UNKNOWN);
        due("mend(0, -1)", x.mend(0, -1), UNKNOWN);
        due("mend(2, 0)", x.mend(2, 0), UNKNOWN);
        due("mend(-1, 0)", x.mend(-1, 0), UNKNOWN);
    }

    // promise 11; from seed 0: call 0, end 1 0 (free), call 1, 0, 1, 1, end 1 0, end 1 2, call 0, 1, 0, 0
    private static void drift() {
        TrunkReserve x = new TrunkReserve();
        due("drift(1)", x.drift(1), 1);
        due("the seed behind two draws", x.seed(1406932606), 1406932606);
        due("drift on a free line", x.drift(1), 1);
        toldIs("drift on a free line", x, 2, 1, 1, 1, 0, 1, 0, NONE, 2);
        due("the seed behind five draws", x.seed(229283573), 229283573);
        due("drift(10)", x.drift(10), 5);
        toldIs("drift(10)", x, 2, 11, 9, 5, 2, 1, 0, NONE, 12);
        groupIs("drift(10)", x, 0, 5, 0, 7, 0, 5, 3, 0, 2);
        groupIs("drift(10)", x, 1, 5, 4, 3, 0, 4, 4, 0, 0);
        lineIs("drift(10)", x, 1, 0, 1, 6, 1);
        due("the seed behind all", x.seed(0), 956612807);
        due("drift(0)", x.drift(0), OUTSIDE);
        due("drift(21)", x.drift(21), OUTSIDE);
        due("drift(-1)", x.drift(-1), OUTSIDE);
        due("drift(far)", x.drift(FAR), OUTSIDE);
        due("refused drifts draw nothing", x.seed(0), 0);
        x.seed(2147483647);
        x.drift(20);
        due("20 are kept", x.told(8), 20);
    }

    // promise 12
    private static void undo() {
        TrunkReserve x = new TrunkReserve();
        due("nothing to undo", x.undo(1), NOT);
        x.shape(0, 2, 3, 0, 1, 2);
        x.call(0);
        x.end(0, 0);
        x.damage(0, 1);
        x.mend(0, 1);
        x.build(4);
        due("six deeds", x.told(8), 6);
        due("undo build", x.undo(1), 4);
        due("groups", x.told(0), 2);
        due("free since ahead", x.group(0, 12), 0);
        due("undo mend", x.undo(1), 3);
        groupIs("undo mend", x, 0, 5, 1, 0, 2);
        due("undo damage, end", x.undo(2), 1);
        lineIs("undo damage, end", x, 0, 0, 1, 0, 0);
        due("too many", x.undo(3), NOT);
        due("undo call, shape", x.undo(2), 0);
        groupIs("undo call, shape", x, 0, 0, 3, 2, 0, NONE, 0, 7, 0, 0, 0, 0, 0, 0, 0);
        due("calls", x.told(2), 0);
        due("nothing left", x.told(8), 0);
        undoOfChoice();
        undoOfMany();
        due("undo(0)", x.undo(0), OUTSIDE);
        due("undo(-1)", x.undo(-1), OUTSIDE);
        due("undo(21)", x.undo(21), OUTSIDE);
        due("undo(far)", x.undo(FAR), OUTSIDE);
    }

    private static void undoOfChoice() {
        TrunkReserve x = new TrunkReserve();
        x.shape(0, 3, 2, 0, NONE, 3);
        x.call(0);
        x.call(0);
        x.undo(1);
        callsGo("the ring is as ahead", x, 0, 1);
        x.shape(0, 2, 2, 0, NONE, 2);
        callsGo("two calls", x, 0, 0, 1);
        x.end(0, 1);
        x.end(0, 0);
        x.damage(0, 1);
        x.mend(0, 1);
        due("free for a short while", x.group(0, 12), 0);
        x.undo(2);
        due("free as long as ahead", x.group(0, 12), 1);
    }

    private static void undoOfMany() {
        TrunkReserve x = new TrunkReserve();
        for (int i = 0; i < 23; i++) {
            x.call(0);
            x.call(9);
        }
        due("20 at most", x.told(8), 20);
        due("undo 7 of 23", x.undo(7), 16);
        x.call(1);
        x.write(0, 0, 0);
        x.seed(5);
        due("13 and one", x.told(8), 14);
        due("more than are left", x.undo(15), NOT);
        due("back to the fourth", x.undo(14), 3);
        groupIs("back to the fourth", x, 0, 5, 0, 7, 0, 3, 3, 0, 0);
        groupIs("back to the fourth", x, 1, 5, 7, 0, 0, 0, 0, 0, 0);
        due("THE BOOK stays", x.told(6), 1);
        due("THE SEED stays", x.seed(0), 5);
        x.drift(2);
        long seed = x.seed(0);
        x.seed((int) seed);
        due("each draw is a deed", x.undo(1) <= 4 ? x.told(8) : NONE, 1);
        due("THE SEED stays", x.seed(0), seed);
    }

    // promise 13
    private static void run() {
        TrunkReserve x = new TrunkReserve();
        // Weights 1, 2, 2, 4/3.
        runIs("3 lines, load 2", x, 0, 0, 4, 19, 4, 19, 30, 19);
        // Weights 1, 3, 9/2, 3.
        x.shape(0, 3, 2, 1, NONE, 0);
        runIs("reserve 1, load 1 over", x, 0, 1, 6, 23, 15, 23, 42, 23);
        x.shape(1, 2, 0, 2, NONE, 0);
        runIs("no load, all held back", x, 1, 6, 0, 1, 1, 1, 0, 1);
        x.shape(1, 2, 0, 0, NONE, 0);
        runIs("no load", x, 1, 0, 0, 1, 0, 1, 0, 1);
        // Weights 1, 2, 0: no own load takes the last line.
        x.shape(1, 2, 0, 1, NONE, 0);
        runIs("load over alone", x, 1, 2, 0, 1, 2, 3, 2, 3);
        x.call(0);
        x.damage(0, 2);
        runIs("whatever is held now", x, 0, 1, 6, 23, 15, 23, 42, 23);
        due("run(2, 0, 0)", x.run(2, 0, 0), UNKNOWN);
        due("run(-1, 9, 9)", x.run(-1, 9, 9), UNKNOWN);
        due("run(0, -1, 0)", x.run(0, -1, 0), OUTSIDE);
        due("run(0, 7, 0)", x.run(0, 7, 0), OUTSIDE);
        due("run(0, 0, -1)", x.run(0, 0, -1), OUTSIDE);
        due("run(0, 0, 6)", x.run(0, 0, 6), OUTSIDE);
        due("run(0, far, far)", x.run(0, FAR, FAR), OUTSIDE);
    }

    private static void runIs(String when, TrunkReserve x, int g, int b, long... wants) {
        for (int i = 0; i < wants.length; i++) {
            due(when + ": run(" + g + ", " + b + ", " + i + ")", x.run(g, b, i), wants[i]);
        }
    }

    // promise 14
    private static void over() {
        TrunkReserve x = new TrunkReserve();
        overIs("3 lines, load 2", x, 0, 8, 19, 4912, 8303);
        x.shape(0, 1, 1, 1, 1, 0);
        overIs("1 line, load 1, its reserve does not matter", x, 0, 1, 2, 7, 12);
        x.shape(0, 4, 0, 0, 1, 0);
        overIs("no load", x, 0, 0, 1, 0, 1);
        due("over(2, 0)", x.over(2, 0), UNKNOWN);
        due("over(-1, 9)", x.over(-1, 9), UNKNOWN);
        due("over(0, -1)", x.over(0, -1), OUTSIDE);
        due("over(0, 4)", x.over(0, 4), OUTSIDE);
    }

    private static void overIs(String when, TrunkReserve x, int g, long... wants) {
        for (int i = 0; i < wants.length; i++) {
            due(when + ": over(" + g + ", " + i + ")", x.over(g, i), wants[i]);
        }
    }

    // promise 15; load 2 loses 2/3, 2/5, 4/19, 2/21, 4/109, 4/331
    private static void linesFor() {
        TrunkReserve x = new TrunkReserve();
        x.shape(0, 1, 2, 1, NONE, 0);
        x.shape(1, 6, 1, 6, NONE, 0);
        int[] thousandths = {999, 667, 666, 400, 399, 211, 210, 96, 95, 37, 36, 13, 12, 1};
        int[] lines = {1, 1, 2, 2, 3, 3, 4, 4, 5, 5, 6, 6, NONE, NONE};
        for (int i = 0; i < lines.length; i++) {
            due("linesFor(0, 0, " + thousandths[i] + ")", x.linesFor(0, 0, thousandths[i]), lines[i]);
            due("linesFor(1, 1, " + thousandths[i] + ")", x.linesFor(1, 1, thousandths[i]), lines[i]);
        }
        x.shape(1, 3, 0, 0, NONE, 0);
        due("no load", x.linesFor(1, 0, 1), 1);
        due("linesFor(2, 0, 1)", x.linesFor(2, 0, 1), UNKNOWN);
        due("linesFor(-1, 9, 0)", x.linesFor(-1, 9, 0), UNKNOWN);
        due("linesFor(0, -1, 1)", x.linesFor(0, -1, 1), OUTSIDE);
        due("linesFor(0, 7, 1)", x.linesFor(0, 7, 1), OUTSIDE);
        due("linesFor(0, 0, 0)", x.linesFor(0, 0, 0), OUTSIDE);
        due("linesFor(0, 0, 1000)", x.linesFor(0, 0, 1000), OUTSIDE);
    }

    // promise 16; 3 lines, load 2, 1 over: 9/26, 6/23, 2/9, 4/19 by reserve 0 to 3
    private static void bestReserve() {
        TrunkReserve x = new TrunkReserve();
        x.shape(0, 3, 2, 2, NONE, 0);
        int[] thousandths = {999, 347, 346, 261, 260, 223, 222, 211, 210, 1};
        int[] reserves = {0, 0, 1, 1, 2, 2, 3, 3, NONE, NONE};
        for (int i = 0; i < reserves.length; i++) {
            due("bestReserve(0, 1, " + thousandths[i] + ")", x.bestReserve(0, 1, thousandths[i]), reserves[i]);
        }
        x.shape(1, 2, 2, 0, NONE, 0);
        due("just so much", x.bestReserve(1, 0, 400), 0);
        due("a thousandth less", x.bestReserve(1, 0, 399), NONE);
        due("bestReserve(2, 0, 1)", x.bestReserve(2, 0, 1), UNKNOWN);
        due("bestReserve(-1, 9, 0)", x.bestReserve(-1, 9, 0), UNKNOWN);
        due("bestReserve(0, -1, 1)", x.bestReserve(0, -1, 1), OUTSIDE);
        due("bestReserve(0, 7, 1)", x.bestReserve(0, 7, 1), OUTSIDE);
        due("bestReserve(0, 0, 0)", x.bestReserve(0, 0, 0), OUTSIDE);
        due("bestReserve(0, 0, 1000)", x.bestReserve(0, 0, 1000), OUTSIDE);
    }

    // promise 17, and WRONG of promise 2
    private static void write() {
        TrunkReserve x = new TrunkReserve();
        due("write(0, 0, 0)", x.write(0, 0, 0), 1);
        due("right", x.told(7), NONE);
        due("write(1, 2, 2)", x.write(1, 2, 2), 2);
        due("wrong", x.told(7), 1);
        x.damage(1, 2);
        due("right now", x.told(7), NONE);
        due("write(0, 1, 1)", x.write(0, 1, 1), 3);
        due("wrong", x.told(7), 2);
        x.call(0);
        due("the first is wrong", x.told(7), 0);
        x.call(0);
        x.end(0, 0);
        due("right again", x.told(7), NONE);
        x.shape(1, 2, 2, 0, NONE, 0);
        due("a line that is no more", x.told(7), 1);
        for (int i = 4; i <= 20; i++) {
            due("write", x.write(1, 1, 1), i);
        }
        due("full", x.write(0, 0, 0), FULL);
        due("full, but outside first", x.write(0, 0, 3), OUTSIDE);
        due("full, but unknown first", x.write(0, 3, 3), UNKNOWN);
        due("write(2, 0, 0)", x.write(2, 0, 0), UNKNOWN);
        due("write(-1, 0, 0)", x.write(-1, 0, 0), UNKNOWN);
        due("write(0, -1, 0)", x.write(0, -1, 0), UNKNOWN);
        due("write(0, 0, -1)", x.write(0, 0, -1), OUTSIDE);
        due("20 entries", x.told(6), 20);
        due("no deed", x.told(8), 5);
    }

    // promise 18
    private static void tear() {
        TrunkReserve x = new TrunkReserve();
        due("tear of nothing", x.tear(), 0);
        x.write(0, 0, 1);
        x.write(0, 1, 1);
        due("tear", x.tear(), 2);
        due("no entries", x.told(6), 0);
        due("none wrong", x.told(7), NONE);
        due("tear again", x.tear(), 0);
        due("write anew", x.write(0, 0, 0), 1);
        due("the old is gone", x.told(7), NONE);
    }

    // promise 19
    private static void seed() {
        TrunkReserve x = new TrunkReserve();
        due("seed(most)", x.seed(2147483647), 0);
        due("seed(-1)", x.seed(-1), OUTSIDE);
        due("seed(far below)", x.seed(FAR_BELOW), OUTSIDE);
        due("seed(0)", x.seed(0), 2147483647);
        due("seed(9)", x.seed(9), 0);
        due("no deed", x.told(8), 0);
    }

    // promise 20
    private static void keep() {
        TrunkReserve x = new TrunkReserve();
        x.call(0);
        due("keep(2)", x.keep(2), UNKNOWN);
        due("keep(-1)", x.keep(-1), UNKNOWN);
        due("keep(far)", x.keep(FAR), UNKNOWN);
        due("still to be undone", x.told(8), 1);
        due("keep(1)", x.keep(1), 1);
        due("nothing to be undone", x.told(8), 0);
        due("nothing to be undone", x.undo(1), NOT);
        due("what is so stays", x.told(1), 1);
        x.call(0);
        due("since the image", x.told(8), 1);
        due("undo", x.undo(1), 1);
        x.call(1);
        due("kept anew", x.keep(1), 1);
        x.build(1);
        x.goBack(1);
        toldIs("kept anew", x, 2, 2, 2, 2);
    }

    // promise 21
    private static void goBack() {
        TrunkReserve x = new TrunkReserve();
        due("not kept", x.goBack(0), NOT);
        due("goBack(2)", x.goBack(2), UNKNOWN);
        due("goBack(-1)", x.goBack(-1), UNKNOWN);
        x.build(3);
        x.shape(2, 4, 3, 1, 0, 3);
        x.call(2);
        x.call(2);
        x.damage(2, 0);
        x.seed(41);
        x.keep(0);
        due("the other is not kept", x.goBack(1), NOT);
        x.seed(42);
        x.end(2, 1);
        x.keep(1);
        x.build(1);
        x.write(0, 0, 1);
        due("goBack(0)", x.goBack(0), 1);
        toldIs("goBack(0)", x, 3, 3, 2, 1, 1, 2, 1, 0, 0);
        groupIs("goBack(0)", x, 2, 0, 4, 3, 1, 0, 3, 12, 2, 1, 2, 2, 0, 1, 22);
        lineIs("goBack(0)", x, 2, 1, 1, 1, 2);
        due("THE SEED too", x.seed(43), 41);
        due("not undone", x.undo(1), NOT);
        x.call(0);
        due("goBack(1)", x.goBack(1), 1);
        groupIs("goBack(1)", x, 2, 5, 14, 0, 1);
        due("THE SEED too", x.seed(0), 42);
        due("goBack(0), again and again", x.goBack(0), 1);
        due("goBack(0), again and again", x.goBack(0), 1);
        groupIs("goBack(0), again", x, 2, 5, 12, 2, 1);
        due("not undone", x.told(8), 0);
    }

    private static void refusalsChangeNothing() {
        TrunkReserve x = new TrunkReserve();
        x.call(0);
        x.build(0);
        x.shape(0, 9, 2, 0, NONE, 0);
        x.call(5);
        x.end(0, 1);
        x.damage(4, 4);
        x.mend(0, 0);
        x.drift(0);
        x.undo(2);
        x.write(0, 0, 5);
        x.goBack(1);
        x.keep(3);
        toldIs("refused", x, 2, 1, 1, 1, 0, 1, 0, NONE, 1);
    }
}
