/** Section 3 of the document, sentence by sentence: what is asked, the book, the draws, undoing, the images. */
public final class AskedEdgesTest {
    private static final Checks CHECKS = new Checks();
    private static final Script SCRIPT = new Script(CHECKS);

    public static void main(String[] args) {
        next();
        bookOfTwenty();
        bookJudged();
        wrongIsTheFirst();
        linesThatAreNoMore();
        seedAtItsBounds();
        kindsOfDraws();
        drawsOfGroupsAndLines();
        timesByDraws();
        undoneOneByOne();
        twentyAreKept();
        undoneOverTheTwenty();
        sinceTheImage();
        twoImages();
        imagesKeepAllOfSection1();
        imagesStayAsTheyWere();
        CHECKS.finish();
    }

    private static void sentence(String words, String... rows) {
        SCRIPT.sentence(words, rows);
    }

    // Every row that only asks is held against a twin that was not asked: see Script.
    private static void next() {
        sentence("NEXT for a GROUP: 10 times the GROUP whose LINE it would take, and the LINE; NONE: it would be LOST",
            "build(4); shape(3, 6, 2, 0, 2, 1); group(0, 12) = 0; group(3, 12) = 35; 5 * call(3); group(3, 12) = 30",
            "call(3) = 30; group(3, 12) = 20; 3 * call(2); group(3, 12) = NONE; group(2, 12) = NONE; end(2, 2)",
            "group(3, 12) = 22; group(2, 12) = 22; shape(2, 3, 2, 3, NONE, 0); group(3, 12) = NONE; group(2, 12) = 20");
        sentence("NEXT: asked twice, it is the same; the CALL then goes there",
            "shape(0, 2, 2, 0, 1, 3); group(0, 12) = 0; group(0, 12) = 0; call(0) = 0; group(0, 12) = 1",
            "group(0, 12) = 1; call(0) = 1; group(0, 12) = 10; call(0) = 10; told(2) = 3; told(1) = 3; group(0, 8) = 3");
    }

    private static void bookOfTwenty() {
        sentence("THE BOOK (20 at most)",
            "told(6) = 0; told(7) = NONE; write(0, 0, 0) = 1; 17 * write(0, 1, 0); told(6) = 18; write(1, 0, 0) = 19",
            "told(6) = 19; write(1, 1, 1) = 20; told(6) = 20; told(7) = 19; write(0, 0, 1) = FULL; write(1, 1, 0) = FULL",
            "told(6) = 20; told(7) = 19; call(1); call(1); told(7) = 18; end(1, 0); told(7) = NONE; call(0); told(7) = 0");
        sentence("THE BOOK (20 at most): torn, and twenty again",
            "20 * write(0, 0, 0); write(0, 0, 0) = FULL; tear() = 20; told(6) = 0; write(0, 0, 1) = 1; told(7) = 0",
            "18 * write(1, 2, 2); write(1, 2, 2) = 20; write(1, 2, 2) = FULL; tear() = 20; tear() = 0");
    }

    private static void bookJudged() {
        sentence("tells that a LINE is FREE (0), HELD (1), OUT (2): of a FREE one",
            "write(0, 0, 0) = 1; told(7) = NONE; tear() = 1; write(0, 0, 1) = 1; told(7) = 0; tear() = 1",
            "write(0, 0, 2) = 1; told(7) = 0");
        sentence("tells that a LINE is FREE (0), HELD (1), OUT (2): of a HELD one",
            "call(0); write(0, 0, 1) = 1; told(7) = NONE; tear() = 1; write(0, 0, 0) = 1; told(7) = 0; tear() = 1",
            "write(0, 0, 2) = 1; told(7) = 0");
        sentence("tells that a LINE is FREE (0), HELD (1), OUT (2): of one that is OUT",
            "damage(0, 0); write(0, 0, 2) = 1; told(7) = NONE; tear() = 1; write(0, 0, 0) = 1; told(7) = 0; tear() = 1",
            "write(0, 0, 1) = 1; told(7) = 0");
        sentence("otherwise now: as it changes",
            "write(0, 0, 1) = 1; told(7) = 0; call(0); told(7) = NONE; end(0, 0); told(7) = 0; call(0); damage(0, 0)",
            "told(7) = 0; mend(0, 0); told(7) = 0; call(0); told(7) = NONE; shape(0, 3, 2, 0, NONE, 0) = 1; told(7) = 0",
            "undo(1); told(7) = NONE");
    }

    private static void wrongIsTheFirst() {
        sentence("WRONG: the first that is otherwise now; NONE",
            "write(0, 0, 0); write(0, 1, 1); write(0, 1, 0); write(1, 2, 2); told(7) = 1; tear(); write(1, 2, 2)",
            "write(0, 1, 1); told(7) = 0; damage(1, 2); told(7) = 1; call(0); call(0); told(7) = NONE");
        sentence("WRONG: the first: the last of twenty is the only one",
            "19 * write(0, 0, 0); write(0, 2, 2) = 20; told(7) = 19; damage(0, 2); told(7) = NONE");
        sentence("WRONG: the first: one LINE told twice, once so and once otherwise",
            "write(1, 0, 0); write(1, 0, 1); told(7) = 1; call(1); told(7) = 0");
    }

    private static void linesThatAreNoMore() {
        sentence("(one that there is no more: it is, too): no such LINE",
            "write(0, 1, 0); write(0, 2, 0); told(7) = NONE; shape(0, 2, 2, 0, NONE, 0); told(7) = 1",
            "shape(0, 1, 2, 0, NONE, 0); told(7) = 0; shape(0, 3, 2, 0, NONE, 0); told(7) = NONE; write(0, 3, 0) = UNKNOWN");
        sentence("(one that there is no more: it is, too): no such GROUP",
            "write(0, 0, 0); write(1, 0, 0); told(7) = NONE; build(1); told(7) = 1; build(2); told(7) = NONE; build(1)",
            "undo(1); told(7) = NONE; told(6) = 2");
        sentence("(one that there is no more: it is, too): whatever is told of it",
            "write(1, 0, 0); build(1); told(7) = 0; tear(); build(2); write(1, 0, 1); build(1); told(7) = 0; tear()",
            "build(2); write(1, 0, 2); build(1); told(7) = 0");
    }

    private static void seedAtItsBounds() {
        sentence("THE SEED (0 at first: ..): 0 .. 2147483647",
            "seed(1) = 0; seed(0) = 1; seed(2147483646) = 0; seed(MAX) = 2147483646; seed(-1) = OUTSIDE",
            "seed(MIN) = OUTSIDE; seed(-2147483647) = OUTSIDE; seed(0) = 2147483647");
        sentence("it times 1103515245 and 12345, left over by 2 to the 31: from 0, two DRAWS",
            "drift(1) = 1; seed(0) = 1406932606");
        sentence("it times 1103515245 and 12345, left over by 2 to the 31: from the largest, three DRAWS",
            "seed(2147483647); drift(1) = 0; seed(2147483646) = 646343466; drift(1) = 0; seed(1) = 638103157",
            "drift(1) = 0; seed(0) = 662824084");
    }

    /** One GROUP of one LINE, HELD: a CALL is LOST there, an END frees it. */
    private static void kindsOfDraws() {
        String held = "build(1); shape(0, 1, 2, 0, NONE, 0); call(0); ";
        sentence("a DRAW of 5: on 0 a CALL comes",
            held + "seed(0); drift(1) = 1; told(2) = 2; told(1) = 2; seed(0) = 1406932606");
        sentence("a DRAW of 5: on 1 a CALL comes",
            held + "seed(6); drift(1) = 1; told(2) = 2; told(1) = 2; seed(0) = 1672197364");
        sentence("a DRAW of 5: on 2 a CALL comes",
            held + "seed(3); drift(1) = 1; told(2) = 2; told(1) = 2; seed(0) = 465823161");
        sentence("a DRAW of 5: on 3 a CALL ENDS",
            held + "seed(1); drift(1) = 0; told(2) = 1; told(1) = 2; seed(0) = 662824084");
        sentence("a DRAW of 5: on 4 a CALL ENDS",
            held + "seed(7); drift(1) = 0; told(2) = 1; told(1) = 2; seed(0) = 712265938");
        sentence("if that is HELD, its CALL ENDS: it is FREE, nothing happens, but the DRAW is done",
            "build(1); shape(0, 1, 2, 0, NONE, 0); seed(1); drift(1) = 0; told(1) = 0; told(2) = 0; told(8) = 3",
            "seed(0) = 662824084; line(0, 0, 0) = 0");
        sentence("if that is HELD, its CALL ENDS: it is OUT, nothing happens",
            "build(1); shape(0, 1, 2, 0, NONE, 0); damage(0, 0); seed(7); drift(1) = 0; told(1) = 1; line(0, 0, 0) = 2",
            "told(8) = 4; seed(0) = 712265938");
    }

    private static void drawsOfGroupsAndLines() {
        sentence("of GROUPS: of one", "build(1); drift(1) = 1; group(0, 8) = 1");
        sentence("of GROUPS: of two",
            "drift(1) = 1; group(0, 8) = 1; group(1, 8) = 0; seed(3); drift(1) = 2; group(1, 8) = 1");
        sentence("of GROUPS: of three",
            "build(3); drift(1) = 1; group(0, 8) = 1; seed(4); drift(1) = 2; group(1, 8) = 1; seed(13); drift(1) = 3",
            "group(2, 8) = 1");
        sentence("of GROUPS: of four",
            "build(4); drift(1) = 1; group(0, 8) = 1; seed(5); drift(1) = 2; group(1, 8) = 1; seed(4); drift(1) = 3",
            "group(2, 8) = 1; seed(3); drift(1) = 4; group(3, 8) = 1");
        sentence("a DRAW of its LINES: of six, the first to the last",
            "build(1); shape(0, 6, 2, 0, NONE, 0); 6 * call(0); seed(15); drift(1) = 5; group(0, 5) = 1; seed(10)",
            "drift(1) = 4; group(0, 5) = 3; seed(7); drift(1) = 3; group(0, 5) = 7; seed(1); drift(1) = 2",
            "group(0, 5) = 15; seed(21); drift(1) = 1; group(0, 5) = 31; seed(16); drift(1) = 0; group(0, 5) = 63");
        sentence("a DRAW of its LINES: of three, of two",
            "build(1); 3 * call(0); seed(1); drift(1) = 2; group(0, 5) = 1; seed(10); drift(1) = 1; group(0, 5) = 3",
            "seed(7); drift(1) = 0; group(0, 5) = 7; shape(0, 2, 2, 0, NONE, 0); 2 * call(0); seed(1); drift(1) = 1",
            "group(0, 5) = 2; seed(7); drift(1) = 0; group(0, 5) = 3");
    }

    private static void timesByDraws() {
        sentence("n times BY DRAWS (1 .. 20)",
            "drift(0) = OUTSIDE; drift(-1) = OUTSIDE; drift(21) = OUTSIDE; drift(MAX) = OUTSIDE; drift(MIN) = OUTSIDE",
            "seed(0) = 0; told(8) = 0; drift(1) = 1; told(8) = 1; drift(2); told(8) = 3; drift(19); told(8) = 20",
            "drift(20); told(8) = 20; drift(21) = OUTSIDE; drift(0) = OUTSIDE");
        sentence("n times BY DRAWS: 19 and one are 20",
            "drift(19) = 5; told(1) = 18; drift(1) = 6; told(1) = 19; seed(0) = 837716109");
        sentence("n times BY DRAWS: 20 at once",
            "drift(20) = 6; told(1) = 19; told(2) = 15; told(4) = 5; told(8) = 20; seed(0) = 837716109");
    }

    private static void undoneOneByOne() {
        sentence("UNDONE: the latest deeds (build(), shape(), call(), end(), damage(), mend(), each of the times BY DRAWS)",
            "build(3); told(8) = 1; shape(0, 1, 6, 1, 2, 3); told(8) = 2; call(0) = 0; told(8) = 3; call(0) = 20",
            "told(8) = 4; end(2, 0) = 1; told(8) = 5; damage(0, 0) = 0; told(8) = 6; mend(0, 0) = 1; told(8) = 7; drift(3)",
            "told(8) = 10; undo(3) = 5; told(8) = 7; group(0, 5) = 1; undo(1) = 4; line(0, 0, 0) = 2; group(0, 11) = 1",
            "undo(1) = 3; line(0, 0, 1) = 0; group(0, 11) = 0; undo(1) = 2; line(2, 0, 1) = 1; line(2, 0, 2) = 0",
            "undo(1) = 1; group(0, 10) = 0; told(2) = 1; undo(1) = 0; group(0, 9) = 0; group(0, 8) = 0; undo(1) = 0",
            "group(0, 0) = 3; group(0, 3) = NONE; told(0) = 3; undo(1) = 0; told(0) = 2; told(8) = 0; undo(1) = NOT");
        sentence("UNDONE: a CALL that is LOST is a deed, too",
            "3 * call(0); call(0) = NONE; told(8) = 4; undo(1) = 3; group(0, 11) = 0; told(2) = 3; group(0, 8) = 3");
        sentence("UNDONE: what is no deed, or is refused, is not there to be undone",
            "write(0, 0, 0); tear(); seed(7); told(8) = 0; build(0) = OUTSIDE; shape(0, 0, 0, 0, 0, 0) = UNKNOWN",
            "call(2) = UNKNOWN; end(0, 0) = NOT; mend(0, 0) = NOT; damage(0, 3) = UNKNOWN; drift(0) = OUTSIDE",
            "told(8) = 0; undo(1) = NOT; call(0); told(8) = 1; undo(2) = NOT; undo(1) = 0; undo(1) = NOT");
        sentence("all of section 1 is as ahead of them; THE SEED stays",
            "drift(1) = 1; undo(1) = 0; told(3) = 0; seed(1406932606) = 1406932606; drift(1); seed(8) = 229283573",
            "undo(1) = 0; seed(0) = 8");
        sentence("all of section 1 is as ahead of them: the ring, and how long LINES have been FREE",
            "shape(0, 3, 2, 0, NONE, 3); call(0) = 0; call(0) = 1; undo(1); call(0) = 1; shape(1, 2, 2, 0, NONE, 2)",
            "call(1) = 10; call(1) = 11; end(1, 1); end(1, 0); damage(1, 1); mend(1, 1); group(1, 12) = 10; undo(2)",
            "group(1, 12) = 11; call(1) = 11");
        sentence("all of section 1 is as ahead of them: THE BOOK is not of it",
            "call(0); write(0, 0, 1); undo(1); told(6) = 1; told(7) = 0; call(1); tear(); undo(1); told(6) = 0");
    }

    private static void twentyAreKept() {
        sentence("(20 at most are kept): 19 deeds",
            "19 * call(0); told(8) = 19; undo(20) = NOT; undo(19) = 0; told(8) = 0; group(0, 5) = 7; undo(1) = NOT");
        sentence("(20 at most are kept): 20 deeds",
            "20 * call(0); told(8) = 20; undo(20) = 0; told(8) = 0; group(0, 5) = 7; undo(1) = NOT");
        sentence("(20 at most are kept): 21 deeds",
            "21 * call(0); told(8) = 20; undo(21) = OUTSIDE; undo(20) = 1; told(8) = 0; group(0, 5) = 6; undo(1) = NOT");
        sentence("(20 at most are kept): 39, 40, 41 deeds",
            "39 * call(0); told(8) = 20; undo(20) = 19; undo(1) = NOT; 21 * call(0); undo(20) = 20; undo(1) = NOT",
            "21 * call(0); undo(19) = 22; told(8) = 1; undo(2) = NOT; undo(1) = 21; undo(1) = NOT");
        sentence("(20 at most are kept): a drift of 20 behind other deeds, one of 19",
            "call(0); call(1); drift(20); told(8) = 20; undo(20) = 2; undo(1) = NOT; call(0); drift(19); told(8) = 20",
            "undo(19) = 3; told(8) = 1; undo(1) = 2");
    }

    private static void undoneOverTheTwenty() {
        sentence("The n latest (1 .. 20) are undone",
            "20 * call(0); undo(0) = OUTSIDE; undo(-1) = OUTSIDE; undo(21) = OUTSIDE; undo(MAX) = OUTSIDE",
            "undo(MIN) = OUTSIDE; undo(1) = 19; undo(2) = 17; told(8) = 17; undo(18) = NOT; undo(19) = NOT",
            "undo(20) = NOT; undo(17) = 0");
        sentence("The n latest are undone: and others done in their place",
            "25 * call(0); undo(20) = 5; 3 * call(1); told(8) = 3; undo(4) = NOT; undo(3) = 5; 20 * call(1)",
            "undo(5) = 20; 2 * call(0); told(8) = 17; undo(17) = 5; group(0, 8) = 5; group(1, 8) = 0; undo(1) = NOT");
    }

    private static void sinceTheImage() {
        sentence("since the IMAGE: kept",
            "3 * call(0); told(8) = 3; keep(0) = 1; told(8) = 0; undo(1) = NOT; call(1); told(8) = 1; undo(2) = NOT",
            "undo(1) = 3; undo(1) = NOT");
        sentence("since the IMAGE: gone back to",
            "keep(1); 3 * call(0); goBack(1) = 1; told(8) = 0; undo(1) = NOT; call(1); undo(2) = NOT; undo(1) = 0");
        sentence("since the IMAGE: 20 deeds behind it, 21",
            "5 * call(0); keep(0); 20 * call(1); told(8) = 20; undo(20) = 5; undo(1) = NOT; 21 * call(1); undo(20) = 6");
        sentence("since the IMAGE: not if it was refused",
            "3 * call(0); keep(2) = UNKNOWN; keep(-1) = UNKNOWN; goBack(0) = NOT; goBack(2) = UNKNOWN; told(8) = 3",
            "undo(3) = 0");
    }

    private static void twoImages() {
        sentence("IMAGES 0, 1",
            "keep(-1) = UNKNOWN; keep(0) = 1; keep(1) = 1; keep(2) = UNKNOWN; keep(MAX) = UNKNOWN; keep(MIN) = UNKNOWN",
            "goBack(-1) = UNKNOWN; goBack(0) = 1; goBack(1) = 1; goBack(2) = UNKNOWN; goBack(MAX) = UNKNOWN",
            "goBack(MIN) = UNKNOWN");
        sentence("it was not kept: neither, the one, the other",
            "goBack(0) = NOT; goBack(1) = NOT; goBack(2) = UNKNOWN; keep(1) = 1; goBack(0) = NOT; goBack(1) = 1",
            "goBack(0) = NOT; keep(0) = 1; goBack(0) = 1");
        sentence("it was not kept: also the other way about",
            "keep(0) = 1; goBack(1) = NOT; goBack(0) = 1; goBack(1) = NOT");
    }

    private static void imagesKeepAllOfSection1() {
        sentence("keep all of section 1: GROUPS, how they are SHAPED, what was counted, TIME, CALLS, LINES",
            "build(3); shape(2, 1, 5, 1, 0, 3); call(2) = 20; call(2) = 0; damage(1, 1); damage(0, 0) = 1; keep(0)",
            "build(1); call(0); goBack(0) = 1; told(0) = 3; told(1) = 4; told(2) = 2; told(3) = 1; told(4) = 1",
            "group(2, 0) = 1; group(2, 1) = 5; group(2, 2) = 1; group(2, 3) = 0; group(2, 4) = 3; group(2, 8) = 2",
            "group(2, 9) = 1; group(2, 10) = 1; group(2, 11) = 1; line(2, 0, 1) = 0; group(1, 7) = 2; group(0, 7) = 1");
        sentence("keep all of section 1: where the ring stands",
            "shape(0, 3, 2, 0, NONE, 3); call(0) = 0; end(0, 0); keep(0); call(0) = 1; call(0) = 2; goBack(0)",
            "call(0) = 1; build(2); goBack(0); call(0) = 1");
        sentence("keep all of section 1: how long LINES have been FREE",
            "shape(0, 2, 2, 0, NONE, 2); 2 * call(0); end(0, 1); end(0, 0); keep(1); call(0) = 1; end(0, 1)",
            "group(0, 12) = 0; goBack(1); group(0, 12) = 1; call(0) = 1");
        sentence("keep .. THE SEED",
            "seed(41); keep(0); seed(42); keep(1); drift(5); goBack(0); seed(41) = 41; goBack(1); seed(0) = 42",
            "goBack(0); drift(3); seed(7); goBack(0); seed(0) = 41");
        sentence("IMAGES: THE BOOK is not kept in them",
            "write(0, 0, 0); keep(0); tear(); write(1, 0, 1); write(1, 1, 1); goBack(0); told(6) = 2; told(7) = 0");
    }

    private static void imagesStayAsTheyWere() {
        sentence("IMAGE i becomes what is so: what is done later does not change it",
            "call(0); keep(0); call(0); goBack(0); told(2) = 1; call(0); call(1); damage(0, 0); goBack(0); told(2) = 1",
            "group(0, 6) = 1; line(0, 0, 1) = 0; told(1) = 1");
        sentence("IMAGE i becomes what is so: kept again, it is the later",
            "call(0); keep(0); call(0); keep(0); build(1); goBack(0); told(2) = 2; call(1); keep(0); goBack(0); told(2) = 3");
        sentence("IMAGE i becomes what is so: the other stays",
            "call(0); keep(0); call(0); keep(1); goBack(0); told(2) = 1; goBack(1); told(2) = 2; keep(0); goBack(0)",
            "told(2) = 2; build(1); keep(1); goBack(0); told(2) = 2; told(0) = 2; goBack(1); told(0) = 1");
    }
}
