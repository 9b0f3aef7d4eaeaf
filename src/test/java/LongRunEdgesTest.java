/** Section 2 of the document, sentence by sentence; the fractions were worked out apart from the class. */
public final class LongRunEdgesTest {
    private static final Checks CHECKS = new Checks();
    private static final Script SCRIPT = new Script(CHECKS);

    public static void main(String[] args) {
        loadOver();
        weights();
        loss();
        lossOver();
        busy();
        mean();
        spread();
        lowestTerms();
        harmsNoOwnCalls();
        linesForP();
        bestReserveForP();
        together();
        togetherCuts();
        togetherRounds();
        togetherOfAllPairs();
        CHECKS.finish();
    }

    private static void sentence(String words, String... rows) {
        SCRIPT.sentence(words, rows);
    }

    private static void loadOver() {
        sentence("a load B (0 .. 6) that comes over",
            "run(0, -1, 0) = OUTSIDE; run(0, 0, 0) = 4; run(0, 0, 1) = 19; run(0, 1, 0) = 9; run(0, 1, 1) = 26",
            "run(0, 5, 0) = 343; run(0, 5, 1) = 538; run(0, 6, 0) = 256; run(0, 6, 1) = 379; run(0, 7, 0) = OUTSIDE",
            "run(0, MAX, 0) = OUTSIDE; run(0, MIN, 0) = OUTSIDE");
        sentence("a load B (0 .. 6) that comes over: of LINES for p",
            "linesFor(0, -1, 999) = OUTSIDE; linesFor(0, 0, 700) = 1; linesFor(0, 1, 700) = 2; linesFor(0, 5, 700) = 3",
            "linesFor(0, 6, 700) = 3; linesFor(0, 6, 675) = 4; linesFor(0, 7, 999) = OUTSIDE",
            "linesFor(0, MAX, 999) = OUTSIDE; linesFor(0, MIN, 999) = OUTSIDE");
        sentence("a load B (0 .. 6) that comes over: of BEST RESERVE for p",
            "bestReserve(0, -1, 999) = OUTSIDE; bestReserve(0, 0, 260) = 0; bestReserve(0, 1, 260) = 2",
            "bestReserve(0, 5, 238) = 2; bestReserve(0, 6, 238) = 3; bestReserve(0, 7, 999) = OUTSIDE",
            "bestReserve(0, MAX, 999) = OUTSIDE; bestReserve(0, MIN, 999) = OUTSIDE");
    }

    private static void weights() {
        sentence("and B besides, if N less k is more than R: 3 LINES, each RESERVE",
            "shape(0, 3, 2, 0, NONE, 0); run(0, 1, 0) = 9; run(0, 1, 1) = 26",
            "shape(0, 3, 2, 1, NONE, 0); run(0, 1, 0) = 6; run(0, 1, 1) = 23",
            "shape(0, 3, 2, 2, NONE, 0); run(0, 1, 0) = 2; run(0, 1, 1) = 9",
            "shape(0, 3, 2, 3, NONE, 0); run(0, 1, 0) = 4; run(0, 1, 1) = 19");
        sentence("WEIGHT k times A: no LOAD, so the WEIGHTS end where the RESERVE begins",
            "shape(0, 3, 0, 0, NONE, 0); run(0, 1, 0) = 1; run(0, 1, 1) = 16",
            "shape(0, 3, 0, 1, NONE, 0); run(0, 1, 0) = 0; run(0, 1, 1) = 1; run(0, 1, 4) = 4; run(0, 1, 5) = 5");
    }

    private static void loss() {
        sentence("LOSS: WEIGHT N by all WEIGHTS: the least GROUP",
            "shape(0, 1, 0, 0, NONE, 0); run(0, 0, 0) = 0; run(0, 0, 1) = 1; run(0, 1, 0) = 1; run(0, 1, 1) = 2",
            "run(0, 6, 0) = 6; run(0, 6, 1) = 7; shape(0, 1, 0, 1, NONE, 0); run(0, 6, 0) = 0; run(0, 6, 1) = 1",
            "shape(0, 1, 6, 1, NONE, 0); run(0, 6, 0) = 6; run(0, 6, 1) = 7; shape(0, 1, 6, 0, NONE, 0)",
            "run(0, 6, 0) = 12; run(0, 6, 1) = 13");
        sentence("LOSS: WEIGHT N by all WEIGHTS: the largest",
            "shape(0, 6, 6, 0, NONE, 0); run(0, 5, 0) = 1771561; run(0, 5, 1) = 3389017; run(0, 6, 0) = 20736",
            "run(0, 6, 1) = 37289; shape(0, 6, 6, 5, NONE, 0); run(0, 6, 0) = 648; run(0, 6, 1) = 2441",
            "shape(0, 6, 6, 6, NONE, 0); run(0, 6, 0) = 324; run(0, 6, 1) = 1223");
    }

    private static void lossOver() {
        sentence("LOSS OVER: WEIGHTS of all k for which N less k is no more than R, by all",
            "shape(0, 3, 2, 0, NONE, 0); run(0, 1, 2) = 9; run(0, 1, 3) = 26",
            "shape(0, 3, 2, 1, NONE, 0); run(0, 1, 2) = 15; run(0, 1, 3) = 23",
            "shape(0, 3, 2, 2, NONE, 0); run(0, 1, 2) = 8; run(0, 1, 3) = 9",
            "shape(0, 3, 2, 3, NONE, 0); run(0, 1, 2) = 1; run(0, 1, 3) = 1");
        sentence("LOSS OVER: of the least: one LINE, held back or not, with LOAD and without",
            "shape(0, 1, 0, 1, NONE, 0); run(0, 0, 2) = 1; run(0, 0, 3) = 1; run(0, 6, 2) = 1; run(0, 6, 3) = 1",
            "shape(0, 1, 6, 1, NONE, 0); run(0, 0, 2) = 1; run(0, 0, 3) = 1; shape(0, 1, 0, 0, NONE, 0)",
            "run(0, 0, 2) = 0; run(0, 0, 3) = 1; run(0, 1, 2) = 1; run(0, 1, 3) = 2; shape(0, 1, 6, 0, NONE, 0)",
            "run(0, 6, 2) = 12; run(0, 6, 3) = 13");
        sentence("LOSS OVER: of the largest; all held back, even with no LOAD at all",
            "shape(0, 6, 6, 5, NONE, 0); run(0, 6, 2) = 2436; run(0, 6, 3) = 2441; run(0, 0, 2) = 1218",
            "run(0, 0, 3) = 1223; shape(0, 6, 0, 6, NONE, 0); run(0, 0, 2) = 1; run(0, 0, 3) = 1; run(0, 6, 2) = 1",
            "run(0, 6, 3) = 1; shape(0, 6, 0, 5, NONE, 0); run(0, 0, 2) = 0; run(0, 0, 3) = 1");
    }

    private static void busy() {
        sentence("BUSY: all k times WEIGHT k, together, by all WEIGHTS",
            "run(0, 0, 4) = 30; run(0, 0, 5) = 19; run(0, 6, 4) = 984; run(0, 6, 5) = 379",
            "shape(0, 1, 0, 0, NONE, 0); run(0, 0, 4) = 0; run(0, 0, 5) = 1; run(0, 6, 4) = 6; run(0, 6, 5) = 7",
            "shape(0, 6, 6, 0, NONE, 0); run(0, 6, 4) = 198636; run(0, 6, 5) = 37289; shape(0, 6, 6, 5, NONE, 0)",
            "run(0, 1, 4) = 203; run(0, 1, 5) = 46; shape(0, 6, 0, 6, NONE, 0); run(0, 6, 4) = 0; run(0, 6, 5) = 1");
    }

    private static void mean() {
        sentence("MEAN of what goes over of a GROUP (no RESERVE, no B): A times LOSS",
            "over(0, 0) = 8; over(0, 1) = 19; shape(0, 3, 2, 3, 1, 0); over(0, 0) = 8; over(0, 1) = 19",
            "shape(0, 1, 0, 0, NONE, 0); over(0, 0) = 0; over(0, 1) = 1; shape(0, 1, 1, 0, NONE, 0); over(0, 0) = 1",
            "over(0, 1) = 2; shape(0, 1, 6, 1, NONE, 0); over(0, 0) = 36; over(0, 1) = 7; shape(0, 6, 0, 0, NONE, 0)",
            "over(0, 0) = 0; over(0, 1) = 1; shape(0, 6, 1, 6, NONE, 0); over(0, 0) = 1; over(0, 1) = 1957",
            "shape(0, 6, 6, 6, NONE, 0); over(0, 0) = 1944; over(0, 1) = 1223");
    }

    private static void spread() {
        sentence("MEAN times the sum of 1, less MEAN, and A / (N + 1 - A + MEAN) (nothing is cut)",
            "over(0, 2) = 4912; over(0, 3) = 8303; shape(0, 3, 2, 3, 1, 0); over(0, 2) = 4912; over(0, 3) = 8303",
            "shape(0, 1, 0, 0, NONE, 0); over(0, 2) = 0; over(0, 3) = 1; shape(0, 1, 1, 0, NONE, 0); over(0, 2) = 7",
            "over(0, 3) = 12; shape(0, 1, 5, 1, NONE, 0); over(0, 2) = 1175; over(0, 3) = 252",
            "shape(0, 1, 6, 1, NONE, 0); over(0, 2) = 279; over(0, 3) = 49");
        sentence("SPREAD of it: of the largest, whose numbers are longer than an int",
            "shape(0, 6, 5, 0, NONE, 0); over(0, 2) = 21229131203125; over(0, 3) = 12789775306763",
            "shape(0, 6, 6, 6, NONE, 0); over(0, 2) = 13007239848; over(0, 3) = 4736973743",
            "shape(0, 6, 1, 0, NONE, 0); over(0, 2) = 26799157; over(0, 3) = 44973916807");
    }

    private static void lowestTerms() {
        sentence("FRACTIONS are told above and below, in lowest terms (0 is 0 by 1)",
            "shape(0, 2, 2, 0, NONE, 0); run(0, 0, 0) = 2; run(0, 0, 1) = 5; run(0, 0, 4) = 6; run(0, 0, 5) = 5",
            "shape(0, 6, 6, 5, NONE, 0); run(0, 1, 0) = 189; run(0, 1, 1) = 713; run(0, 1, 2) = 1421",
            "run(0, 1, 3) = 1426; shape(0, 6, 0, 0, NONE, 0); run(0, 0, 0) = 0; run(0, 0, 1) = 1; run(0, 0, 2) = 0",
            "run(0, 0, 3) = 1; run(0, 0, 4) = 0; run(0, 0, 5) = 1; over(0, 0) = 0; over(0, 1) = 1; over(0, 2) = 0",
            "over(0, 3) = 1");
        for (int n = 1; n <= 6; n++) {
            for (int a = 0; a <= 6; a++) {
                TrunkReserve x = new TrunkReserve();
                x.shape(0, n, a, n / 2, 1, 0);
                for (int what = 0; what < 6; what += 2) {
                    isLowest("run " + n + " " + a, x.run(0, 3, what), x.run(0, 3, what + 1));
                }
                isLowest("mean " + n + " " + a, x.over(0, 0), x.over(0, 1));
                isLowest("spread " + n + " " + a, x.over(0, 2), x.over(0, 3));
            }
        }
    }

    private static void isLowest(String of, long above, long below) {
        long a = above;
        long b = below;
        while (b != 0) {
            long left = a % b;
            a = b;
            b = left;
        }
        CHECKS.holds(of + " in lowest terms: " + above + " by " + below, a == 1 && above >= 0 && below >= 1);
    }

    /** Exactly, by crosswise products, which are far inside a long. */
    private static void harmsNoOwnCalls() {
        for (int n = 1; n <= 6; n++) {
            for (int a = 0; a <= 6; a++) {
                for (int b = 0; b <= 6; b++) {
                    TrunkReserve x = new TrunkReserve();
                    x.shape(0, n, a, 0, TrunkReserve.NONE, 0);
                    long above = x.run(0, b, 0);
                    long below = x.run(0, b, 1);
                    for (int r = 1; r <= n; r++) {
                        x.shape(0, n, a, r, TrunkReserve.NONE, 0);
                        long newAbove = x.run(0, b, 0);
                        long newBelow = x.run(0, b, 1);
                        CHECKS.holds("that a reserve never harms a group's own calls: " + n + " " + a + " " + b + " " + r,
                            newAbove * below <= above * newBelow);
                        above = newAbove;
                        below = newBelow;
                    }
                }
            }
        }
    }

    private static void linesForP() {
        sentence("LINES for p (1 .. 999)",
            "linesFor(0, 0, 0) = OUTSIDE; linesFor(0, 0, -1) = OUTSIDE; linesFor(0, 0, 1) = NONE; linesFor(0, 0, 2) = NONE",
            "linesFor(0, 0, 998) = 1; linesFor(0, 0, 999) = 1; linesFor(0, 0, 1000) = OUTSIDE",
            "linesFor(0, 0, 1001) = OUTSIDE; linesFor(0, 0, MAX) = OUTSIDE; linesFor(0, 0, MIN) = OUTSIDE");
        sentence("the least N (1 .. 6) by which LOSS, with A, RESERVE 0, B, is p thousandths at most",
            "shape(0, 1, 1, 1, NONE, 0); linesFor(0, 0, 501) = 1; linesFor(0, 0, 500) = 1; linesFor(0, 0, 499) = 2",
            "linesFor(0, 0, 200) = 2; linesFor(0, 0, 199) = 3; linesFor(0, 0, 63) = 3; linesFor(0, 0, 62) = 4",
            "linesFor(0, 0, 16) = 4; linesFor(0, 0, 15) = 5; linesFor(0, 0, 4) = 5; linesFor(0, 0, 3) = 6",
            "linesFor(0, 0, 1) = 6; linesFor(0, 1, 400) = 2; linesFor(0, 1, 399) = 3");
        sentence("the least N (1 .. 6); NONE",
            "shape(0, 2, 6, 2, NONE, 0); linesFor(0, 0, 720) = 2; linesFor(0, 0, 719) = 3; linesFor(0, 0, 265) = 6",
            "linesFor(0, 0, 264) = NONE; linesFor(0, 6, 924) = 1; linesFor(0, 6, 923) = 2; linesFor(0, 6, 557) = 6",
            "linesFor(0, 6, 556) = NONE; linesFor(0, 6, 1) = NONE; group(0, 0) = 2",
            "shape(0, 6, 0, 6, NONE, 0); linesFor(0, 0, 1) = 1; linesFor(0, 0, 999) = 1; linesFor(0, 1, 499) = 2");
    }

    private static void bestReserveForP() {
        sentence("BEST RESERVE for p: p (1 .. 999)",
            "bestReserve(0, 0, 0) = OUTSIDE; bestReserve(0, 0, -1) = OUTSIDE; bestReserve(0, 0, 1) = NONE",
            "bestReserve(0, 0, 2) = NONE; bestReserve(0, 0, 998) = 0; bestReserve(0, 0, 999) = 0",
            "bestReserve(0, 0, 1000) = OUTSIDE; bestReserve(0, 0, 1001) = OUTSIDE; bestReserve(0, 0, MAX) = OUTSIDE",
            "bestReserve(0, 0, MIN) = OUTSIDE");
        sentence("the least R (0 .. N) by which LOSS is p thousandths at most; NONE",
            "shape(0, 2, 1, 2, NONE, 0); bestReserve(0, 1, 400) = 0; bestReserve(0, 1, 399) = 1",
            "bestReserve(0, 1, 250) = 1; bestReserve(0, 1, 249) = 2; bestReserve(0, 1, 200) = 2",
            "bestReserve(0, 1, 199) = NONE; group(0, 2) = 2; bestReserve(0, 0, 200) = 0; bestReserve(0, 0, 199) = NONE");
        sentence("the least R (0 .. N): of one LINE, of six",
            "shape(0, 1, 1, 0, NONE, 0); bestReserve(0, 6, 875) = 0; bestReserve(0, 6, 874) = 1",
            "bestReserve(0, 6, 500) = 1; bestReserve(0, 6, 499) = NONE; shape(0, 6, 1, 0, NONE, 0)",
            "bestReserve(0, 6, 332) = 0; bestReserve(0, 6, 331) = 1; bestReserve(0, 6, 2) = 4; bestReserve(0, 6, 1) = 5",
            "shape(0, 6, 6, 0, NONE, 0); bestReserve(0, 6, 266) = 5; bestReserve(0, 6, 265) = 6",
            "bestReserve(0, 6, 264) = NONE; shape(0, 6, 0, 0, NONE, 0); bestReserve(0, 0, 1) = 0; bestReserve(0, 6, 1) = 1");
    }

    private static void together() {
        sentence("all GROUPS at once, from B 0 on: one GROUP; none OVER another",
            "told(5) = 1; group(0, 13) = 0; group(0, 14) = 210; build(1); told(5) = 1; group(0, 13) = 0; group(0, 14) = 210",
            "build(4); told(5) = 1; group(3, 13) = 0; group(3, 14) = 210");
        sentence("from B 0 on: no LOAD at all",
            "shape(0, 1, 0, 0, 1, 0); shape(1, 1, 0, 0, 0, 0); told(5) = 1; group(0, 13) = 0; group(0, 14) = 0",
            "group(1, 13) = 0; group(1, 14) = 0; shape(0, 1, 1, 0, 1, 0); told(5) = 2; group(0, 13) = 0",
            "group(0, 14) = 500; group(1, 13) = 500; group(1, 14) = 333");
        sentence("and B besides, likewise: if N less k is more than R",
            "shape(0, 1, 1, 0, 1, 0); shape(1, 3, 2, 0, NONE, 0); group(1, 13) = 500; group(1, 14) = 282",
            "shape(1, 3, 2, 1, NONE, 0); group(1, 14) = 239; shape(1, 3, 2, 2, NONE, 0); group(1, 14) = 217",
            "shape(1, 3, 2, 3, NONE, 0); group(1, 13) = 500; group(1, 14) = 210; told(5) = 2");
        sentence("B of a GROUP becomes A times P of all GROUPS that go OVER it, together: the most there is",
            "build(4); shape(0, 1, 6, 0, 3, 0); shape(1, 1, 6, 0, 3, 0); shape(2, 1, 6, 0, 3, 0)",
            "shape(3, 6, 6, 0, NONE, 0); told(5) = 2; group(3, 13) = 15426; group(3, 14) = 735; group(0, 14) = 857",
            "shape(3, 6, 6, 6, 0, 0); told(5) = 3; group(0, 13) = 1584; group(0, 14) = 883; group(3, 13) = 15582",
            "group(3, 14) = 264; shape(3, 1, 6, 0, 0, 0); told(5) = 4; group(0, 13) = 5736; group(0, 14) = 921",
            "group(3, 13) = 15810; group(3, 14) = 956; group(1, 13) = 0; group(2, 14) = 857");
        sentence("TOGETHER: of how the GROUPS are SHAPED, whatever is HELD or OUT",
            "shape(0, 1, 1, 0, 1, 0); call(0); call(0); damage(1, 2); group(0, 14) = 500; group(1, 13) = 500; told(5) = 2");
    }

    private static void togetherCuts() {
        // Weights 1000000, 2000000, 2000000, 1333333, 333333: 49 and some; not cut, 50.
        sentence("cut each time",
            "build(3); shape(0, 1, 1, 0, 2, 0); shape(1, 1, 1, 0, 2, 0); shape(2, 4, 1, 1, NONE, 0)",
            "group(2, 13) = 1000; group(2, 14) = 49");
        sentence("P is 1000 times WEIGHT N / all WEIGHTS: cut",
            "shape(0, 1, 2, 0, NONE, 0); group(0, 14) = 666; shape(0, 6, 1, 0, NONE, 0); group(0, 14) = 0",
            "shape(0, 5, 1, 0, NONE, 0); group(0, 14) = 3");
    }

    private static void togetherRounds() {
        sentence("ROUNDS (that in which no B changes, too): a chain of four",
            "build(4); shape(0, 1, 1, 0, 1, 0); shape(1, 1, 1, 0, 2, 0); shape(2, 1, 1, 0, 3, 0)",
            "shape(3, 1, 1, 0, NONE, 0); told(5) = 4; group(1, 13) = 500; group(2, 13) = 600; group(3, 13) = 615",
            "group(3, 14) = 617");
        sentence("It ends when no B changes, or behind 30 rounds: the longest that any four GROUPS take is 11",
            "build(4); shape(0, 5, 2, 0, 1, 0); shape(1, 3, 2, 0, 2, 0); shape(2, 6, 5, 0, 3, 0)",
            "shape(3, 5, 5, 0, 0, 0); told(5) = 11; group(0, 13) = 1855; group(1, 13) = 372; group(2, 13) = 528",
            "group(3, 13) = 1155; group(0, 14) = 186; group(1, 14) = 264; group(2, 14) = 231; group(3, 14) = 371");
    }

    /** Every GROUP over every other that is over it: no B would change any more, long ahead of 30 rounds. */
    private static void togetherOfAllPairs() {
        for (int n = 1; n <= 6; n++) {
            for (int a = 0; a <= 6; a++) {
                for (int r = 0; r <= n; r++) {
                    togetherWithEach(n, a, r);
                }
            }
        }
    }

    private static void togetherWithEach(int n, int a, int r) {
        for (int otherN = 1; otherN <= 6; otherN++) {
            for (int otherA = 0; otherA <= 6; otherA++) {
                TrunkReserve x = new TrunkReserve();
                x.shape(0, n, a, r, 1, 0);
                for (int otherR = 0; otherR <= otherN; otherR++) {
                    x.shape(1, otherN, otherA, otherR, 0, 0);
                    String of = n + " " + a + " " + r + ", " + otherN + " " + otherA + " " + otherR;
                    CHECKS.due("It ends when no B changes: " + of, x.group(0, 13), otherA * x.group(1, 14));
                    CHECKS.due("It ends when no B changes: " + of, x.group(1, 13), a * x.group(0, 14));
                    CHECKS.holds("ROUNDS: 1 to 9 of two GROUPS: " + of, x.told(5) >= 1 && x.told(5) <= 9);
                }
            }
        }
    }
}
