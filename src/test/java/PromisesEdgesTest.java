/**
 * Promises 1 to 21, each with the bounds that stand in it and its refusals in their order, and the sentences
 * ahead of section 1. What the sections say of bounds stands in the tests named for them.
 */
public final class PromisesEdgesTest {
    private static final Checks CHECKS = new Checks();
    private static final Script SCRIPT = new Script(CHECKS);

    public static void main(String[] args) {
        atMost512Calls();
        terms();
        refusalsInOrder();
        newObject();
        told();
        group();
        line();
        buildAndShape();
        call();
        end();
        damage();
        mend();
        drift();
        undo();
        run();
        over();
        linesFor();
        bestReserve();
        write();
        tear();
        seed();
        keep();
        goBack();
        CHECKS.finish();
    }

    private static void sentence(String words, String... rows) {
        SCRIPT.sentence(words, rows);
    }

    private static void atMost512Calls() {
        TrunkReserve x = new TrunkReserve();
        for (int i = 0; i < 511; i++) {
            x.call(0);
        }
        CHECKS.due("An object is used for at most 512 calls: the last tells CALLS", x.told(2), 511);
        x = new TrunkReserve();
        Model model = new Model();
        for (int i = 0; i < 511; i++) {
            CHECKS.due("An object is used for at most 512 calls: drift " + i, x.drift(20), model.drift(20));
        }
        CHECKS.due("An object is used for at most 512 calls: the last tells TIME", x.told(1), model.told(1));
        x = new TrunkReserve();
        for (int i = 0; i < 255; i++) {
            x.damage(1, 2);
            x.mend(1, 2);
        }
        CHECKS.due("An object is used for at most 512 calls: the 511th", x.undo(20), 490);
        CHECKS.due("An object is used for at most 512 calls: the 512th", x.told(8), 0);
    }

    private static void terms() {
        sentence("What has a number has it from 0 on",
            "group(0, 12) = 0; call(0) = 0; line(0, 0, 1) = 0; line(0, 0, 2) = 0; write(0, 0, 0) = 1; told(7) = 0",
            "keep(0) = 1; group(-1, 0) = UNKNOWN; line(0, -1, 0) = UNKNOWN; keep(-1) = UNKNOWN");
        sentence("A SET is a whole number, bit k for k",
            "shape(0, 6, 2, 0, NONE, 1); group(0, 5) = 63; call(0) = 5; group(0, 5) = 31; group(0, 6) = 32",
            "damage(0, 0) = NONE; group(0, 5) = 30; group(0, 7) = 1; damage(0, 5) = 0; group(0, 7) = 33; group(0, 6) = 0",
            "shape(0, 1, 2, 0, NONE, 1); group(0, 5) = 1; call(0) = 0; group(0, 5) = 0; group(0, 6) = 1");
        sentence("NONE is -1", "group(0, 3) = -1; line(0, 0, 1) = -1; line(0, 0, 2) = -1; told(7) = -1; damage(0, 0) = -1");
        sentence("They are far below all that is counted: -1000000001 and on",
            "call(2) = -1000000001; told(9) = -1000000002; undo(1) = -1000000003; 20 * write(0, 0, 0)",
            "write(0, 0, 0) = -1000000004; run(2, 0, 0) = -1000000001; run(0, 7, 0) = -1000000002; over(2, 0) = -1000000001",
            "over(0, 4) = -1000000002");
    }

    private static void refusalsInOrder() {
        sentence("of several the first in this order: UNKNOWN ahead of OUTSIDE",
            "group(2, 15) = UNKNOWN; line(2, 0, 3) = UNKNOWN; line(0, 3, 3) = UNKNOWN; run(2, 7, 6) = UNKNOWN",
            "over(2, 4) = UNKNOWN; linesFor(2, 7, 0) = UNKNOWN; bestReserve(2, 7, 1000) = UNKNOWN",
            "write(2, 0, 3) = UNKNOWN; write(0, 3, -1) = UNKNOWN; shape(2, 0, 7, -1, NONE, 4) = UNKNOWN",
            "shape(0, 0, 7, -1, 2, 4) = UNKNOWN; shape(0, 7, -1, 8, 0, -1) = UNKNOWN; shape(2, 3, 2, 0, 2, 9) = UNKNOWN");
        sentence("of several the first in this order: OUTSIDE ahead of NOT",
            "undo(0) = OUTSIDE; undo(21) = OUTSIDE; undo(20) = NOT; undo(1) = NOT; call(0); undo(21) = OUTSIDE; undo(2) = NOT");
        sentence("of several the first in this order: UNKNOWN ahead of NOT",
            "goBack(2) = UNKNOWN; goBack(-1) = UNKNOWN; goBack(1) = NOT; end(0, 3) = UNKNOWN; end(2, 0) = UNKNOWN",
            "end(0, 2) = NOT; mend(0, 3) = UNKNOWN; mend(0, 2) = NOT; damage(0, 2); damage(0, 3) = UNKNOWN",
            "damage(0, 2) = NOT");
        sentence("of several the first in this order: UNKNOWN, OUTSIDE ahead of FULL",
            "19 * write(0, 0, 0); write(0, 0, 3) = OUTSIDE; write(2, 0, 0) = UNKNOWN; write(0, 0, 0) = 20",
            "write(0, 0, 0) = FULL; write(0, 0, 3) = OUTSIDE; write(0, 0, -1) = OUTSIDE; write(0, 3, 0) = UNKNOWN",
            "write(2, 0, 0) = UNKNOWN; write(0, 3, 3) = UNKNOWN; write(0, 2, 2) = FULL; told(6) = 20");
        sentence("UNKNOWN (.. one twice, where two are asked)",
            "shape(0, 3, 2, 0, 0, 0) = UNKNOWN; shape(1, 3, 2, 0, 1, 0) = UNKNOWN; shape(1, 3, 2, 0, 0, 0) = 0",
            "shape(0, 9, 9, 9, 0, 9) = UNKNOWN; shape(0, 9, 9, 9, 1, 9) = OUTSIDE");
    }

    private static void newObject() {
        sentence("TrunkReserve(): 2 GROUPS",
            "told(0) = 2; told(1) = 0; told(2) = 0; told(3) = 0; told(4) = 0; told(5) = 1; told(6) = 0; told(7) = NONE",
            "told(8) = 0; group(1, 0) = 3; group(2, 0) = UNKNOWN; group(1, 5) = 7; undo(1) = NOT; goBack(0) = NOT",
            "goBack(1) = NOT; tear() = 0; seed(0) = 0");
    }

    private static void told() {
        sentence("told: 0 .. 8; OUTSIDE",
            "told(-1) = OUTSIDE; told(0) = 2; told(1) = 0; told(7) = NONE; told(8) = 0; told(9) = OUTSIDE",
            "told(10) = OUTSIDE; told(256) = OUTSIDE; told(MAX) = OUTSIDE; told(MIN) = OUTSIDE");
        sentence("3 how many LINES are HELD: none; all of four GROUPS of six; those that came over",
            "build(4); shape(0, 6, 2, 0, 1, 0); shape(1, 6, 2, 0, 2, 0); shape(2, 6, 2, 0, 3, 0); shape(3, 6, 2, 0, 0, 0)",
            "told(3) = 0; 12 * call(0); told(3) = 12; call(0) = NONE; told(3) = 12; 11 * call(2); told(3) = 23",
            "call(2) = 35; told(3) = 24; call(3) = NONE; told(3) = 24; damage(3, 5) = 24; told(3) = 23");
        sentence("4 LOST of all together",
            "told(4) = 0; 4 * call(0); told(4) = 1; 5 * call(1); told(4) = 3; damage(0, 0) = 0; told(4) = 4",
            "mend(0, 0); damage(0, 0) = NONE; told(4) = 4");
        sentence("8 how many can be undone: none to 20",
            "told(8) = 0; call(0); told(8) = 1; 18 * call(0); told(8) = 19; call(0); told(8) = 20; call(0); told(8) = 20",
            "undo(1); told(8) = 19; undo(19); told(8) = 0");
    }

    private static void group() {
        sentence("group: what = 0 .. 14; UNKNOWN, OUTSIDE",
            "group(0, -1) = OUTSIDE; group(0, 0) = 3; group(0, 1) = 2; group(0, 13) = 0; group(0, 14) = 210",
            "group(0, 15) = OUTSIDE; group(0, 16) = OUTSIDE; group(0, MAX) = OUTSIDE; group(0, MIN) = OUTSIDE",
            "group(1, 14) = 210; group(2, 14) = UNKNOWN; group(-1, 14) = UNKNOWN; group(2, -1) = UNKNOWN",
            "group(-1, 15) = UNKNOWN; group(MAX, 0) = UNKNOWN; group(MIN, 0) = UNKNOWN");
    }

    private static void line() {
        sentence("line: what = 0, 1, 2; UNKNOWN, OUTSIDE",
            "call(1) = 10; line(1, 0, -1) = OUTSIDE; line(1, 0, 0) = 1; line(1, 0, 1) = 0; line(1, 0, 2) = 1",
            "line(1, 0, 3) = OUTSIDE; line(1, 0, MAX) = OUTSIDE; line(1, 0, MIN) = OUTSIDE; line(1, 2, 2) = NONE",
            "line(1, 3, 0) = UNKNOWN; line(1, -1, 0) = UNKNOWN; line(2, 0, 0) = UNKNOWN; line(-1, 0, 0) = UNKNOWN",
            "line(1, 32, 0) = UNKNOWN; line(1, MAX, 0) = UNKNOWN; line(1, MIN, 0) = UNKNOWN; line(MAX, 0, 0) = UNKNOWN");
        sentence("1 the CALL that HOLDS it (NONE), 2 for which GROUP that came (NONE): behind each deed",
            "shape(0, 1, 2, 0, 1, 0); call(0); call(0) = 10; line(1, 0, 1) = 1; line(1, 0, 2) = 0; end(1, 0) = 1",
            "line(1, 0, 1) = NONE; line(1, 0, 2) = NONE; call(1) = 10; line(1, 0, 1) = 2; line(1, 0, 2) = 1",
            "damage(1, 0) = 2; line(1, 0, 1) = NONE; line(1, 0, 2) = NONE; mend(1, 0); line(1, 0, 1) = NONE",
            "call(1) = 10; shape(1, 3, 2, 0, NONE, 0); line(1, 0, 0) = 0; line(1, 0, 1) = NONE; line(1, 0, 2) = NONE");
    }

    private static void buildAndShape() {
        sentence("BUILT (GROUPS 1 .. 4): how many there were. OUTSIDE",
            "build(0) = OUTSIDE; build(1) = 2; build(1) = 1; build(4) = 1; build(4) = 4; build(5) = OUTSIDE; build(3) = 4",
            "build(2) = 3; build(2) = 2; told(8) = 7");
        sentence("SHAPED: how many CALLS ENDED by it: of those that HELD a LINE of it, wherever they came for",
            "shape(0, 1, 2, 0, 1, 0) = 0; 3 * call(0); call(1) = 12; shape(0, 1, 2, 0, 1, 0) = 1; told(3) = 3",
            "shape(1, 3, 2, 0, NONE, 0) = 3; told(3) = 0; shape(1, 3, 2, 0, NONE, 0) = 0; damage(1, 0)",
            "shape(1, 3, 2, 0, NONE, 0) = 0; group(1, 7) = 0");
        sentence("UNKNOWN (also OVER: no GROUP and not NONE, or itself), OUTSIDE",
            "shape(-1, 3, 2, 0, NONE, 0) = UNKNOWN; shape(2, 3, 2, 0, NONE, 0) = UNKNOWN; shape(2, 3, 2, 0, 0, 0) = UNKNOWN",
            "shape(1, 3, 2, 0, 2, 0) = UNKNOWN; shape(1, 3, 2, 0, -2, 0) = UNKNOWN; shape(1, 3, 2, 0, 1, 0) = UNKNOWN",
            "shape(1, 3, 2, 0, 0, 0) = 0; shape(1, 3, 2, 0, NONE, 0) = 0; shape(-1, 3, 2, 0, -1, 0) = UNKNOWN",
            "shape(1, 7, 2, 0, 0, 0) = OUTSIDE; shape(1, 3, 7, 0, 0, 0) = OUTSIDE; shape(1, 3, 2, 4, 0, 0) = OUTSIDE",
            "shape(1, 3, 2, 0, 0, 4) = OUTSIDE; told(8) = 2");
    }

    private static void call() {
        sentence("A CALL comes: 10 times the GROUP and the LINE; NONE: it is LOST. UNKNOWN",
            "call(-1) = UNKNOWN; call(2) = UNKNOWN; call(MAX) = UNKNOWN; call(MIN) = UNKNOWN; told(2) = 0; told(1) = 0",
            "call(0) = 0; call(1) = 10; call(1) = 11; call(1) = 12; call(1) = NONE; told(2) = 5; build(4)",
            "shape(3, 6, 2, 0, NONE, 1); call(3) = 35; call(4) = UNKNOWN; told(2) = 1");
    }

    private static void end() {
        sentence("The CALL on a LINE ENDS: its number. UNKNOWN, NOT: it is not HELD",
            "2 * call(1); end(1, 1) = 1; end(1, 1) = NOT; end(1, 2) = NOT; damage(1, 2); end(1, 2) = NOT; end(1, 0) = 0",
            "end(1, 3) = UNKNOWN; end(1, -1) = UNKNOWN; end(2, 0) = UNKNOWN; end(-1, 0) = UNKNOWN; end(1, 32) = UNKNOWN",
            "end(MAX, MAX) = UNKNOWN; end(MIN, MIN) = UNKNOWN; end(0, 0) = NOT; told(1) = 5");
    }

    private static void damage() {
        sentence("A LINE is BROKEN: the CALL that is LOST (NONE). UNKNOWN, NOT: it is OUT",
            "2 * call(1); damage(1, 1) = 1; damage(1, 1) = NOT; damage(1, 2) = NONE; damage(1, 2) = NOT; damage(1, 0) = 0",
            "damage(1, 3) = UNKNOWN; damage(1, -1) = UNKNOWN; damage(2, 0) = UNKNOWN; damage(-1, 0) = UNKNOWN",
            "damage(1, 32) = UNKNOWN; damage(MAX, MAX) = UNKNOWN; damage(MIN, MIN) = UNKNOWN; told(1) = 5; told(4) = 2",
            "group(1, 5) = 0; group(1, 7) = 7; call(1) = NONE; mend(1, 1) = 1; damage(1, 1) = NONE");
    }

    private static void mend() {
        sentence("A LINE is MENDED: how many FREE ones the GROUP has. UNKNOWN, NOT: it is not OUT",
            "mend(0, 0) = NOT; call(0); mend(0, 0) = NOT; damage(0, 0); damage(0, 1); damage(0, 2); mend(0, 1) = 1",
            "mend(0, 1) = NOT; call(0) = 1; mend(0, 1) = NOT; mend(0, 0) = 1; mend(0, 2) = 2; mend(0, 3) = UNKNOWN",
            "mend(0, -1) = UNKNOWN; mend(2, 0) = UNKNOWN; mend(-1, 0) = UNKNOWN; mend(0, 32) = UNKNOWN",
            "mend(MAX, MAX) = UNKNOWN; mend(MIN, MIN) = UNKNOWN; told(1) = 8");
        sentence("how many FREE ones the GROUP has: one of one, six of six",
            "shape(0, 1, 2, 0, NONE, 0); damage(0, 0); mend(0, 0) = 1; shape(0, 6, 2, 0, NONE, 0); damage(0, 5)",
            "mend(0, 5) = 6; 5 * call(0); damage(0, 5); mend(0, 5) = 1");
    }

    private static void drift() {
        sentence("n times BY DRAWS (1 .. 20): how many LINES are HELD. OUTSIDE",
            "drift(0) = OUTSIDE; drift(1) = 1; drift(2) = 2; drift(17) = 6; told(3) = 6; drift(21) = OUTSIDE",
            "drift(32) = OUTSIDE; drift(-1) = OUTSIDE; drift(MAX) = OUTSIDE; drift(MIN) = OUTSIDE; seed(0) = 837716109");
    }

    private static void undo() {
        sentence("The n latest (1 .. 20) are undone: TIME. OUTSIDE, NOT: not so many",
            "undo(0) = OUTSIDE; undo(1) = NOT; undo(20) = NOT; undo(21) = OUTSIDE; call(0); undo(2) = NOT; undo(1) = 0",
            "20 * call(0); undo(20) = 0; 20 * call(0); undo(19) = 1; undo(2) = NOT; undo(1) = 0; undo(-1) = OUTSIDE",
            "undo(32) = OUTSIDE; undo(MAX) = OUTSIDE; undo(MIN) = OUTSIDE");
    }

    private static void run() {
        sentence("Of a GROUP with a load b over (0 .. 6): what = 0 .. 5. UNKNOWN, OUTSIDE (then these)",
            "run(0, 0, -1) = OUTSIDE; run(0, 0, 0) = 4; run(0, 0, 1) = 19; run(0, 0, 4) = 30; run(0, 0, 5) = 19",
            "run(0, 0, 6) = OUTSIDE; run(0, 0, MAX) = OUTSIDE; run(0, 0, MIN) = OUTSIDE; run(0, -1, 0) = OUTSIDE",
            "run(0, 6, 5) = 379; run(0, 7, 5) = OUTSIDE; run(1, 0, 0) = 4; run(2, 0, 0) = UNKNOWN; run(-1, 0, 0) = UNKNOWN",
            "run(2, 7, 0) = UNKNOWN; run(2, 0, 6) = UNKNOWN; run(MAX, 0, 0) = UNKNOWN; run(MIN, 0, 0) = UNKNOWN");
    }

    private static void over() {
        sentence("Of a GROUP: what = 0 .. 3. UNKNOWN, OUTSIDE (then these)",
            "over(0, -1) = OUTSIDE; over(0, 0) = 8; over(0, 1) = 19; over(0, 2) = 4912; over(0, 3) = 8303",
            "over(0, 4) = OUTSIDE; over(0, MAX) = OUTSIDE; over(0, MIN) = OUTSIDE; over(1, 0) = 8; over(2, 0) = UNKNOWN",
            "over(-1, 0) = UNKNOWN; over(2, 4) = UNKNOWN; over(MAX, 0) = UNKNOWN; over(MIN, 0) = UNKNOWN");
    }

    private static void linesFor() {
        sentence("LINES for p with a load b over; NONE. UNKNOWN, OUTSIDE",
            "linesFor(0, 0, 667) = 1; linesFor(0, 0, 666) = 2; linesFor(0, 0, 13) = 6; linesFor(0, 0, 12) = NONE",
            "linesFor(1, 0, 999) = 1; linesFor(2, 0, 999) = UNKNOWN; linesFor(-1, 0, 999) = UNKNOWN",
            "linesFor(2, 7, 999) = UNKNOWN; linesFor(2, 0, 0) = UNKNOWN; linesFor(0, 7, 999) = OUTSIDE",
            "linesFor(0, 6, 1000) = OUTSIDE; linesFor(0, 6, 999) = 1; linesFor(0, -1, 0) = OUTSIDE",
            "linesFor(MAX, 0, 1) = UNKNOWN; linesFor(MIN, 0, 1) = UNKNOWN");
    }

    private static void bestReserve() {
        sentence("BEST RESERVE for p with a load b over; NONE. UNKNOWN, OUTSIDE",
            "bestReserve(0, 1, 347) = 0; bestReserve(0, 1, 346) = 1; bestReserve(0, 1, 211) = 3; bestReserve(0, 1, 210) = NONE",
            "bestReserve(1, 0, 999) = 0; bestReserve(2, 0, 999) = UNKNOWN; bestReserve(-1, 0, 999) = UNKNOWN",
            "bestReserve(2, 7, 999) = UNKNOWN; bestReserve(2, 0, 0) = UNKNOWN; bestReserve(0, 7, 999) = OUTSIDE",
            "bestReserve(0, 6, 1000) = OUTSIDE; bestReserve(0, 6, 999) = 0; bestReserve(0, -1, 0) = OUTSIDE",
            "bestReserve(MAX, 0, 1) = UNKNOWN; bestReserve(MIN, 0, 1) = UNKNOWN");
    }

    private static void write() {
        sentence("An entry behind THE BOOK (0 .. 2): how many. UNKNOWN, OUTSIDE, FULL (20)",
            "write(0, 0, -1) = OUTSIDE; write(0, 0, 0) = 1; write(0, 0, 1) = 2; write(0, 0, 2) = 3; write(0, 0, 3) = OUTSIDE",
            "write(0, 0, MAX) = OUTSIDE; write(0, 0, MIN) = OUTSIDE; write(0, 2, 0) = 4; write(0, 3, 0) = UNKNOWN",
            "write(0, -1, 0) = UNKNOWN; write(1, 0, 0) = 5; write(2, 0, 0) = UNKNOWN; write(-1, 0, 0) = UNKNOWN",
            "write(MAX, MAX, MAX) = UNKNOWN; write(MIN, MIN, MIN) = UNKNOWN; write(0, 32, 0) = UNKNOWN; told(6) = 5",
            "13 * write(1, 0, 0); write(1, 0, 0) = 19; write(1, 0, 0) = 20; write(1, 0, 0) = FULL; told(6) = 20",
            "told(8) = 0; told(1) = 0");
    }

    private static void tear() {
        sentence("No BOOK: how much it had",
            "tear() = 0; write(0, 0, 1) = 1; tear() = 1; told(6) = 0; told(7) = NONE; tear() = 0; 20 * write(0, 0, 1)",
            "tear() = 20; told(6) = 0; told(7) = NONE; write(0, 0, 0) = 1; told(7) = NONE; told(8) = 0");
    }

    private static void seed() {
        sentence("THE SEED becomes v (0 .. 2147483647): what it was. OUTSIDE",
            "seed(0) = 0; seed(1) = 0; seed(-1) = OUTSIDE; seed(2147483646) = 1; seed(2147483647) = 2147483646",
            "seed(MIN) = OUTSIDE; seed(-2147483647) = OUTSIDE; seed(-1000000001) = OUTSIDE; seed(0) = 2147483647",
            "told(8) = 0; told(1) = 0");
    }

    private static void keep() {
        sentence("IMAGE i becomes what is so (nothing can be undone then): 1. UNKNOWN",
            "2 * call(0); keep(-1) = UNKNOWN; keep(2) = UNKNOWN; told(8) = 2; keep(0) = 1; told(8) = 0; undo(1) = NOT",
            "told(2) = 2; call(0); keep(1) = 1; told(8) = 0; undo(1) = NOT; told(2) = 3; goBack(0) = 1; told(2) = 2");
    }

    private static void goBack() {
        sentence("What is so becomes IMAGE i (nothing can be undone then): 1. UNKNOWN, NOT: it was not kept",
            "call(0); goBack(0) = NOT; goBack(1) = NOT; goBack(-1) = UNKNOWN; goBack(2) = UNKNOWN; told(8) = 1; keep(1) = 1",
            "2 * call(0); goBack(0) = NOT; told(8) = 2; goBack(1) = 1; told(8) = 0; undo(1) = NOT; told(2) = 1",
            "goBack(1) = 1; told(2) = 1; goBack(2) = UNKNOWN; goBack(0) = NOT");
    }
}
