/**
 * Every shape of a group, every load over: the exact answers of the long run, held against Model. New objects all
 * the time, for the document promises nothing behind the 512th call of one.
 */
public final class LongRunTest {
    public static void main(String[] args) {
        Checks checks = new Checks();
        for (int n = 1; n <= 6; n++) {
            for (int a = 0; a <= 6; a++) {
                for (int r = 0; r <= n; r++) {
                    TrunkReserve x = new TrunkReserve();
                    checks.due("shape", x.shape(0, n, a, r, 1, 0), 0);
                    overGroup(checks, x, n, a);
                    for (int b = 0; b <= 6; b++) {
                        inTheLongRun(checks, x, n, a, r, b);
                    }
                }
            }
        }
        everyThousandth(checks);
        reserveHarmsNoOwnCalls(checks);
        checks.finish();
    }

    private static void overGroup(Checks checks, TrunkReserve x, int n, int a) {
        for (int part = 0; part < 2; part++) {
            checks.due("mean " + n + " " + a, x.over(0, part), Model.mean(n, a).part(part));
            checks.due("spread " + n + " " + a, x.over(0, 2 + part), Model.spread(n, a).part(part));
        }
    }

    private static void inTheLongRun(Checks checks, TrunkReserve x, int n, int a, int r, int b) {
        String of = n + " " + a + " " + r + " " + b;
        for (int part = 0; part < 2; part++) {
            checks.due("loss " + of, x.run(0, b, part), Model.loss(n, a, r, b).part(part));
            checks.due("loss over " + of, x.run(0, b, 2 + part), Model.lossOver(n, a, r, b).part(part));
            checks.due("busy " + of, x.run(0, b, 4 + part), Model.busy(n, a, r, b).part(part));
        }
    }

    /** p thousandths at most: the step stands exactly where the loss does. */
    private static void everyThousandth(Checks checks) {
        Model model = new Model();
        for (int a = 0; a <= 6; a += 2) {
            model.shape(0, 5, a, 2, 1, 0);
            for (int b = 0; b <= 6; b += 3) {
                for (int p = 1; p <= 999; p += 2) {
                    TrunkReserve x = new TrunkReserve();
                    x.shape(0, 5, a, 2, 1, 0);
                    String of = a + " " + b + " " + p;
                    checks.due("linesFor " + of, x.linesFor(0, b, p), model.linesFor(0, b, p));
                    checks.due("bestReserve " + of, x.bestReserve(0, b, p), model.bestReserve(0, b, p));
                }
            }
        }
    }

    private static void reserveHarmsNoOwnCalls(Checks checks) {
        for (int n = 1; n <= 6; n++) {
            for (int a = 0; a <= 6; a++) {
                for (int b = 0; b <= 6; b++) {
                    TrunkReserve x = new TrunkReserve();
                    double before = 2;
                    for (int r = 0; r <= n; r++) {
                        x.shape(0, n, a, r, 1, 0);
                        double loss = (double) x.run(0, b, 0) / x.run(0, b, 1);
                        checks.holds("reserve " + r + " of " + n + " " + a + " " + b, loss <= before);
                        before = loss;
                    }
                }
            }
        }
    }
}
