/** Section 1 of the document, sentence by sentence: just inside each bound, at it, and just outside. */
public final class GroupsEdgesTest {
    private static final Checks CHECKS = new Checks();
    private static final Script SCRIPT = new Script(CHECKS);

    public static void main(String[] args) {
        bounds();
        lineStates();
        whereCallsGo();
        reserveOfTheOther();
        numbers();
        choiceFirst();
        choiceLast();
        choiceLongestFree();
        choiceRing();
        choiceRingAround();
        endsBreaksMendings();
        time();
        counted();
        built();
        shaped();
        CHECKS.finish();
    }

    private static void sentence(String words, String... rows) {
        SCRIPT.sentence(words, rows);
    }

    private static void bounds() {
        sentence("GROUPS 0 .. G less 1 (1 .. 4; 2 at first)",
            "told(0) = 2; group(-1, 0) = UNKNOWN; group(0, 0) = 3; group(1, 0) = 3; group(2, 0) = UNKNOWN",
            "build(1) = 2; group(-1, 0) = UNKNOWN; group(0, 0) = 3; group(1, 0) = UNKNOWN; group(2, 0) = UNKNOWN",
            "build(2) = 1; group(1, 0) = 3; group(2, 0) = UNKNOWN",
            "build(3) = 2; group(2, 0) = 3; group(3, 0) = UNKNOWN",
            "build(4) = 3; group(-1, 0) = UNKNOWN; group(3, 0) = 3; group(4, 0) = UNKNOWN; group(5, 0) = UNKNOWN",
            "build(0) = OUTSIDE; build(-1) = OUTSIDE; build(5) = OUTSIDE; build(MAX) = OUTSIDE; build(MIN) = OUTSIDE",
            "told(0) = 4");
        sentence("A GROUP has N LINES (1 .. 6; 3 at first)",
            "group(0, 0) = 3; line(0, -1, 0) = UNKNOWN; line(0, 0, 0) = 0; line(0, 2, 0) = 0; line(0, 3, 0) = UNKNOWN",
            "shape(0, 1, 2, 0, NONE, 0) = 0; group(0, 0) = 1; line(0, 0, 0) = 0; line(0, 1, 0) = UNKNOWN",
            "shape(0, 2, 2, 0, NONE, 0) = 0; group(0, 0) = 2; line(0, 1, 0) = 0; line(0, 2, 0) = UNKNOWN",
            "shape(0, 5, 2, 0, NONE, 0) = 0; group(0, 0) = 5; line(0, 4, 0) = 0; line(0, 5, 0) = UNKNOWN",
            "shape(0, 6, 2, 0, NONE, 0) = 0; group(0, 0) = 6; line(0, 5, 0) = 0; line(0, 6, 0) = UNKNOWN",
            "shape(0, 0, 2, 0, NONE, 0) = OUTSIDE; shape(0, -1, 2, 0, NONE, 0) = OUTSIDE",
            "shape(0, 7, 2, 0, NONE, 0) = OUTSIDE; shape(0, MAX, 2, 0, NONE, 0) = OUTSIDE",
            "shape(0, MIN, 2, 0, NONE, 0) = OUTSIDE; group(0, 0) = 6; group(1, 0) = 3");
        sentence("a LOAD A (0 .. 6; 2 at first: so many calls come for it while one lasts)",
            "group(0, 1) = 2; shape(0, 3, 0, 0, NONE, 0) = 0; group(0, 1) = 0; shape(0, 3, 1, 0, NONE, 0) = 0",
            "group(0, 1) = 1; shape(0, 3, 5, 0, NONE, 0) = 0; group(0, 1) = 5; shape(0, 3, 6, 0, NONE, 0) = 0",
            "shape(0, 3, -1, 0, NONE, 0) = OUTSIDE; shape(0, 3, 7, 0, NONE, 0) = OUTSIDE",
            "shape(0, 3, MAX, 0, NONE, 0) = OUTSIDE; shape(0, 3, MIN, 0, NONE, 0) = OUTSIDE",
            "group(0, 1) = 6; group(1, 1) = 2");
        sentence("a RESERVE (0 .. N; 0 at first)",
            "group(0, 2) = 0; shape(0, 1, 2, 0, NONE, 0) = 0; shape(0, 1, 2, 1, NONE, 0) = 0; group(0, 2) = 1",
            "shape(0, 1, 2, 2, NONE, 0) = OUTSIDE; shape(0, 1, 2, -1, NONE, 0) = OUTSIDE; group(0, 2) = 1",
            "shape(0, 3, 2, 2, NONE, 0) = 0; shape(0, 3, 2, 4, NONE, 0) = OUTSIDE; group(0, 2) = 2",
            "shape(0, 3, 2, 3, NONE, 0) = 0; group(0, 2) = 3; shape(0, 6, 2, 5, NONE, 0) = 0; group(0, 2) = 5",
            "shape(0, 6, 2, 7, NONE, 0) = OUTSIDE; shape(0, 6, 2, MAX, NONE, 0) = OUTSIDE",
            "shape(0, 6, 2, MIN, NONE, 0) = OUTSIDE; group(0, 2) = 5; shape(0, 6, 2, 6, NONE, 0) = 0; group(0, 2) = 6");
        sentence("a RESERVE (0 .. N; 0 at first): N as it becomes, not as it was",
            "shape(0, 6, 2, 6, NONE, 0) = 0; shape(0, 5, 2, 6, NONE, 0) = OUTSIDE; group(0, 0) = 6",
            "shape(0, 1, 2, 1, NONE, 0) = 0; shape(0, 6, 2, 6, NONE, 0) = 0; group(0, 2) = 6");
        sentence("OVER: another GROUP, or NONE (at first)",
            "group(0, 3) = NONE; group(1, 3) = NONE; shape(0, 3, 2, 0, 1, 0) = 0; group(0, 3) = 1",
            "shape(0, 3, 2, 0, 0, 0) = UNKNOWN; shape(0, 3, 2, 0, 2, 0) = UNKNOWN; shape(0, 3, 2, 0, -2, 0) = UNKNOWN",
            "shape(0, 3, 2, 0, MAX, 0) = UNKNOWN; shape(0, 3, 2, 0, MIN, 0) = UNKNOWN; group(0, 3) = 1",
            "shape(1, 3, 2, 0, 0, 0) = 0; group(1, 3) = 0; shape(1, 3, 2, 0, 1, 0) = UNKNOWN; group(1, 3) = 0",
            "shape(1, 3, 2, 0, NONE, 0) = 0; group(1, 3) = NONE",
            "build(4); shape(3, 3, 2, 0, 2, 0) = 0; shape(0, 3, 2, 0, 3, 0) = 0; shape(0, 3, 2, 0, 4, 0) = UNKNOWN",
            "shape(3, 3, 2, 0, 3, 0) = UNKNOWN; group(3, 3) = 2; group(0, 3) = 3",
            "build(1); shape(0, 3, 2, 0, 1, 0) = UNKNOWN; shape(0, 3, 2, 0, 0, 0) = UNKNOWN",
            "shape(0, 3, 2, 0, NONE, 0) = 0; group(0, 3) = NONE");
        sentence("a CHOICE (0 .. 3; 0 at first)",
            "group(0, 4) = 0; shape(0, 3, 2, 0, NONE, 1) = 0; group(0, 4) = 1; shape(0, 3, 2, 0, NONE, 2) = 0",
            "group(0, 4) = 2; shape(0, 3, 2, 0, NONE, 3) = 0; group(0, 4) = 3; shape(0, 3, 2, 0, NONE, -1) = OUTSIDE",
            "shape(0, 3, 2, 0, NONE, 4) = OUTSIDE; shape(0, 3, 2, 0, NONE, MAX) = OUTSIDE",
            "shape(0, 3, 2, 0, NONE, MIN) = OUTSIDE; group(0, 4) = 3; shape(0, 3, 2, 0, NONE, 0) = 0; group(0, 4) = 0");
    }

    private static void lineStates() {
        sentence("A LINE is FREE, or HELD by a CALL, or OUT of order (then it is neither)",
            "shape(0, 6, 2, 0, NONE, 0); group(0, 5) = 63; group(0, 6) = 0; group(0, 7) = 0; call(0) = 0",
            "damage(0, 5) = NONE; group(0, 5) = 30; group(0, 6) = 1; group(0, 7) = 32",
            "line(0, 0, 0) = 1; line(0, 1, 0) = 0; line(0, 5, 0) = 2; told(3) = 1",
            "line(0, 0, 1) = 0; line(0, 0, 2) = 0; line(0, 1, 1) = NONE; line(0, 1, 2) = NONE; line(0, 5, 1) = NONE",
            "damage(0, 0) = 0; group(0, 5) = 30; group(0, 6) = 0; group(0, 7) = 33; told(3) = 0",
            "line(0, 0, 0) = 2; line(0, 0, 1) = NONE; line(0, 0, 2) = NONE",
            "5 * call(0); group(0, 5) = 0; group(0, 6) = 30; group(0, 7) = 33; told(3) = 4");
    }

    private static void whereCallsGo() {
        sentence("if it has a FREE LINE, it is TAKEN there: down to the last, whatever the RESERVE",
            "shape(0, 2, 2, 2, 1, 0); call(0) = 0; call(0) = 1; group(0, 9) = 2; group(0, 10) = 0; call(0) = 10",
            "group(0, 9) = 2; group(0, 10) = 1; end(0, 1) = 1; call(0) = 1; group(0, 9) = 3");
        sentence("if it has a FREE LINE: one alone; none, for all are OUT",
            "shape(0, 1, 2, 0, 1, 0); damage(0, 0) = NONE; call(0) = 10; mend(0, 0) = 1; call(0) = 0; call(0) = 11");
        sentence("Else, if the GROUP has OVER: it has none",
            "3 * call(0); group(0, 12) = NONE; call(0) = NONE; group(0, 10) = 0; group(0, 11) = 1; group(1, 5) = 7");
        sentence("they may go over another group, once",
            "build(4); shape(0, 1, 2, 0, 1, 0); shape(1, 1, 2, 0, 2, 0); shape(2, 1, 2, 0, 3, 0)",
            "shape(3, 1, 2, 0, NONE, 0); call(0) = 0; call(0) = 10; group(0, 12) = NONE; call(0) = NONE",
            "group(2, 5) = 1; call(1) = 20; call(1) = NONE; call(2) = 30; call(2) = NONE",
            "group(0, 11) = 1; group(1, 11) = 1; group(2, 11) = 1");
        sentence("two GROUPS over each other, both full: it is LOST",
            "shape(0, 1, 2, 0, 1, 0); shape(1, 1, 2, 0, 0, 0); call(0) = 0; call(0) = 10; call(0) = NONE",
            "call(1) = NONE; end(0, 0) = 0; call(1) = 0; line(0, 0, 2) = 1; group(1, 10) = 1");
    }

    private static void reserveOfTheOther() {
        sentence("and that one has more FREE LINES than its RESERVE: 0",
            "shape(0, 1, 2, 0, 1, 0); shape(1, 3, 2, 0, NONE, 0); call(0) = 0; call(0) = 10; call(0) = 11",
            "group(0, 12) = 12; call(0) = 12; group(0, 12) = NONE; call(0) = NONE");
        sentence("and that one has more FREE LINES than its RESERVE: 1 of 3",
            "shape(0, 1, 2, 0, 1, 0); shape(1, 3, 2, 1, NONE, 0); call(0) = 0; call(0) = 10; group(0, 12) = 11",
            "call(0) = 11; group(0, 12) = NONE; call(0) = NONE; call(1) = 12; end(1, 0) = 1; call(0) = NONE",
            "end(1, 2) = 4; group(0, 12) = 10; call(0) = 10; call(0) = NONE");
        sentence("and that one has more FREE LINES than its RESERVE: all but one",
            "shape(0, 1, 2, 0, 1, 0); shape(1, 6, 2, 5, NONE, 0); call(0) = 0; call(0) = 10; call(0) = NONE",
            "end(1, 0) = 1; damage(1, 5) = NONE; call(0) = NONE; mend(1, 5) = 6; call(0) = 10");
        sentence("and that one has more FREE LINES than its RESERVE: all",
            "shape(0, 1, 2, 0, 1, 0); shape(1, 6, 2, 6, NONE, 0); call(0) = 0; group(0, 12) = NONE; call(0) = NONE",
            "call(1) = 10; shape(1, 1, 2, 1, NONE, 0) = 1; call(0) = NONE; call(1) = 10");
        sentence("more FREE LINES: what is OUT is not FREE",
            "shape(0, 1, 2, 0, 1, 0); shape(1, 2, 2, 0, NONE, 0); call(0) = 0; damage(1, 0) = NONE; call(0) = 11",
            "call(0) = NONE; end(1, 1) = 1; damage(1, 1) = NONE; call(0) = NONE; mend(1, 0) = 1; call(0) = 10");
        sentence("its RESERVE: that of the GROUP gone over, not that of its own",
            "shape(0, 1, 2, 1, 1, 0); shape(1, 1, 2, 0, NONE, 0); call(0) = 0; call(0) = 10");
    }

    private static void numbers() {
        sentence("CALLS are numbered as they came, from 0 on, also those that are LOST",
            "shape(0, 1, 2, 0, NONE, 0); call(0) = 0; line(0, 0, 1) = 0; call(0) = NONE; call(0) = NONE",
            "call(1) = 10; line(1, 0, 1) = 3; end(0, 0) = 0; call(0) = 0; line(0, 0, 1) = 4; told(2) = 5",
            "call(2) = UNKNOWN; call(1) = 11; line(1, 1, 1) = 5; told(2) = 6");
    }

    private static void choiceFirst() {
        sentence("by CHOICE of the GROUP whose LINE it is: 0 the first",
            "shape(0, 6, 2, 0, NONE, 0); call(0) = 0; damage(0, 1); call(0) = 2; end(0, 0) = 0; call(0) = 0",
            "mend(0, 1) = 4; call(0) = 1; call(0) = 3; call(0) = 4; call(0) = 5; call(0) = NONE",
            "end(0, 5) = 6; call(0) = 5; end(0, 0) = 2; call(0) = 0");
        sentence("by CHOICE of the GROUP whose LINE it is: not of that the CALL comes for",
            "shape(0, 1, 2, 0, 1, 0); shape(1, 3, 2, 0, 0, 1); call(0) = 0; call(0) = 12; call(0) = 11",
            "end(0, 0) = 0; end(1, 1) = 2; call(1) = 11; call(1) = 10; call(1) = 0");
    }

    private static void choiceLast() {
        sentence("1 the last",
            "shape(0, 6, 2, 0, NONE, 1); call(0) = 5; damage(0, 4); call(0) = 3; end(0, 5) = 0; call(0) = 5",
            "mend(0, 4) = 4; call(0) = 4; call(0) = 2; call(0) = 1; call(0) = 0; call(0) = NONE",
            "end(0, 0) = 6; call(0) = 0; shape(0, 1, 2, 0, NONE, 1) = 6; call(0) = 0; call(0) = NONE",
            "shape(0, 2, 2, 0, NONE, 1) = 1; call(0) = 1; call(0) = 0");
    }

    private static void choiceLongestFree() {
        sentence("2 the one that has been FREE the longest (of like ones the first; all since the beginning at first)",
            "shape(0, 6, 2, 0, NONE, 2); call(0) = 0; call(0) = 1; end(0, 0) = 0; call(0) = 2; call(0) = 3",
            "call(0) = 4; call(0) = 5; call(0) = 0; call(0) = NONE; end(0, 5) = 5; end(0, 1) = 1; end(0, 3) = 3",
            "call(0) = 5; call(0) = 1; call(0) = 3; call(0) = NONE");
        sentence("2 the one that has been FREE the longest: a MENDED one since it was MENDED",
            "shape(0, 3, 2, 0, NONE, 2); 3 * call(0); end(0, 1) = 1; end(0, 2) = 2; damage(0, 1) = NONE",
            "group(0, 12) = 2; mend(0, 1) = 2; group(0, 12) = 2; end(0, 0) = 0; call(0) = 2; call(0) = 1; call(0) = 0");
        sentence("2 the one that has been FREE the longest: BROKEN at the beginning and MENDED, it is the last of them",
            "shape(0, 3, 2, 0, NONE, 2); damage(0, 0) = NONE; mend(0, 0) = 3; call(0) = 1; call(0) = 2; call(0) = 0");
        sentence("2 the one that has been FREE the longest: SHAPED, all are like ones again",
            "shape(0, 3, 2, 0, NONE, 2); 3 * call(0); end(0, 2); end(0, 0); call(0) = 2",
            "shape(0, 3, 2, 0, NONE, 2) = 2; call(0) = 0; call(0) = 1; call(0) = 2");
        sentence("2 the one that has been FREE the longest: of those that come over, too",
            "shape(0, 1, 2, 0, 1, 0); shape(1, 3, 2, 0, NONE, 2); call(0) = 0; call(0) = 10; call(1) = 11",
            "end(1, 0) = 1; call(0) = 12; call(0) = 10; end(1, 1); end(1, 2); end(1, 0); call(0) = 11; call(1) = 12");
    }

    private static void choiceRing() {
        sentence("3 the next one in a ring behind the one taken last (LINE 0 at first)",
            "shape(0, 3, 2, 0, NONE, 3); group(0, 12) = 0; call(0) = 0; call(0) = 1; end(0, 0) = 0; end(0, 1) = 1",
            "group(0, 12) = 2; call(0) = 2; group(0, 12) = 0; call(0) = 0; call(0) = 1; call(0) = NONE");
        sentence("(LINE 0 at first): that one is OUT",
            "shape(0, 3, 2, 0, NONE, 3); damage(0, 0) = NONE; call(0) = 1; mend(0, 0) = 2; call(0) = 2; call(0) = 0");
        sentence("(LINE 0 at first): all but the last are OUT",
            "shape(0, 6, 2, 0, NONE, 3); damage(0, 0); damage(0, 1); damage(0, 2); damage(0, 3); damage(0, 4)",
            "call(0) = 5; call(0) = NONE; mend(0, 4) = 1; call(0) = 4");
        sentence("the next one in a ring: SHAPED, LINE 0 again",
            "shape(0, 3, 2, 0, NONE, 3); call(0) = 0; call(0) = 1; shape(0, 3, 2, 0, NONE, 3) = 2; call(0) = 0",
            "shape(0, 3, 2, 0, NONE, 0) = 1; call(0) = 0; call(0) = 1; shape(0, 3, 2, 0, NONE, 3) = 2; call(0) = 0");
        sentence("behind the one taken last: also by a CALL that came over",
            "shape(0, 1, 2, 0, 1, 0); shape(1, 4, 2, 0, NONE, 3); call(0) = 0; call(0) = 10; call(1) = 11",
            "end(1, 0) = 1; call(0) = 12; call(1) = 13; call(0) = 10; call(0) = NONE");
    }

    private static void choiceRingAround() {
        sentence("a ring: behind the last LINE comes LINE 0",
            "shape(0, 6, 2, 0, NONE, 3); 5 * call(0); end(0, 0); end(0, 1); call(0) = 5; group(0, 12) = 0",
            "call(0) = 0; call(0) = 1; call(0) = NONE");
        sentence("a ring: around it, what is HELD or OUT is left out",
            "shape(0, 4, 2, 0, NONE, 3); 4 * call(0); end(0, 1) = 1; end(0, 2) = 2; damage(0, 0) = 0; call(0) = 1",
            "end(0, 3) = 3; damage(0, 2) = NONE; call(0) = 3; mend(0, 2) = 1; mend(0, 0) = 2; call(0) = 0; call(0) = 2");
        sentence("a ring: all around to the one taken last itself",
            "shape(0, 3, 2, 0, NONE, 3); 3 * call(0); end(0, 2) = 2; call(0) = 2; end(0, 2) = 3; call(0) = 2",
            "end(0, 0) = 0; call(0) = 0; end(0, 0) = 5; call(0) = 0; end(0, 2) = 4; end(0, 0) = 6; call(0) = 2");
        sentence("a ring of one LINE",
            "shape(0, 1, 2, 0, NONE, 3); call(0) = 0; call(0) = NONE; end(0, 0) = 0; call(0) = 0; damage(0, 0) = 2",
            "call(0) = NONE; mend(0, 0) = 1; call(0) = 0");
        sentence("the one taken last: what is LOST, ENDS, is BROKEN or MENDED is not taken",
            "shape(0, 4, 2, 0, NONE, 3); 2 * call(0); end(0, 0) = 0; damage(0, 1) = 1; mend(0, 1) = 4; damage(0, 3)",
            "mend(0, 3) = 4; call(0) = 2; call(0) = 3; call(0) = 0; call(0) = 1; call(0) = NONE; end(0, 3) = 3",
            "end(0, 2) = 2; call(0) = 2");
    }

    private static void endsBreaksMendings() {
        sentence("A CALL ENDS: its LINE is FREE",
            "end(0, 0) = NOT; call(0) = 0; line(0, 0, 0) = 1; end(0, 0) = 0; line(0, 0, 0) = 0; line(0, 0, 1) = NONE",
            "line(0, 0, 2) = NONE; end(0, 0) = NOT; group(0, 11) = 0; group(0, 9) = 1");
        sentence("A LINE is BROKEN: it is OUT; a CALL that HELD it is LOST",
            "shape(0, 1, 2, 0, 1, 0); call(0) = 0; call(0) = 10; call(1) = 11; damage(1, 0) = 1; line(1, 0, 0) = 2",
            "group(0, 11) = 1; group(1, 11) = 0; damage(1, 1) = 2; group(0, 11) = 1; group(1, 11) = 1",
            "damage(1, 2) = NONE; group(0, 11) = 1; group(1, 11) = 1; told(4) = 2; damage(1, 2) = NOT",
            "damage(0, 0) = 0; group(0, 11) = 2; told(4) = 3; group(0, 9) = 1; group(0, 10) = 1; told(3) = 0");
        sentence("MENDED: it is FREE",
            "mend(0, 0) = NOT; damage(0, 0) = NONE; group(0, 5) = 6; mend(0, 0) = 3; group(0, 5) = 7; mend(0, 0) = NOT",
            "call(0) = 0; mend(0, 0) = NOT; line(0, 0, 1) = 0");
    }

    private static void time() {
        sentence("TIME: how many CALLS, ENDS, BREAKS, MENDINGS there were",
            "told(1) = 0; call(0); told(1) = 1; 3 * call(0); told(1) = 4; end(0, 0); told(1) = 5; damage(0, 0)",
            "told(1) = 6; damage(0, 1); told(1) = 7; mend(0, 0); told(1) = 8; shape(0, 3, 2, 0, NONE, 0) = 1",
            "told(1) = 8; end(0, 0) = NOT; mend(0, 0) = NOT; call(9) = UNKNOWN; write(0, 0, 0); tear(); seed(1)",
            "keep(0); goBack(0); told(1) = 8; told(2) = 4");
    }

    private static void counted() {
        sentence("Of a GROUP are counted (of CALLS for it): OFFERED, TAKEN there, that WENT OVER, LOST (also by breaks)",
            "shape(0, 1, 2, 0, 1, 0); shape(1, 1, 2, 0, NONE, 0); call(0) = 0; call(0) = 10; call(0) = NONE",
            "call(1) = NONE; group(0, 8) = 3; group(0, 9) = 1; group(0, 10) = 1; group(0, 11) = 1; group(1, 8) = 1",
            "group(1, 9) = 0; group(1, 10) = 0; group(1, 11) = 1; told(4) = 2; damage(1, 0) = 1; group(0, 8) = 3",
            "group(0, 10) = 1; group(0, 11) = 2; group(1, 11) = 1; told(4) = 3; end(0, 0) = 0; damage(0, 0) = NONE",
            "group(0, 11) = 2; told(4) = 3");
    }

    private static void built() {
        sentence("BUILT: another number of GROUPS, all as at first",
            "shape(0, 1, 6, 1, 1, 3); shape(1, 6, 0, 6, 0, 1); call(0) = 0; call(1) = 15; call(0) = NONE; damage(1, 0)",
            "build(3) = 2; told(1) = 0; told(2) = 0; told(3) = 0; told(4) = 0; group(0, 0) = 3; group(0, 1) = 2",
            "group(0, 2) = 0; group(0, 3) = NONE; group(0, 4) = 0; group(0, 5) = 7; group(1, 5) = 7; group(2, 5) = 7",
            "group(1, 7) = 0; group(0, 8) = 0; group(0, 9) = 0; group(0, 11) = 0; call(0) = 0; line(0, 0, 1) = 0");
        sentence("BUILT: the same number again, all as at first too",
            "shape(1, 6, 0, 6, 0, 1); call(1) = 15; build(2) = 2; group(1, 0) = 3; group(1, 4) = 0; told(1) = 0",
            "group(1, 5) = 7; group(1, 8) = 0; call(1) = 10; told(8) = 4");
        sentence("BUILT: all as at first: OFFERED, TAKEN, WENT OVER, LOST",
            "shape(0, 1, 2, 0, 1, 0); shape(1, 1, 2, 0, NONE, 0); call(0) = 0; call(0) = 10; call(0) = NONE",
            "group(0, 8) = 3; group(0, 9) = 1; group(0, 10) = 1; group(0, 11) = 1; build(2) = 2; group(0, 8) = 0",
            "group(0, 9) = 0; group(0, 10) = 0; group(0, 11) = 0; told(4) = 0");
        sentence("BUILT: fewer, and more again: those that were not are as at first",
            "build(4) = 2; shape(3, 6, 6, 6, 0, 3); call(3) = 30; damage(3, 5); build(1) = 4; line(3, 0, 0) = UNKNOWN",
            "call(3) = UNKNOWN; build(4) = 1; group(3, 0) = 3; group(3, 5) = 7; group(3, 8) = 0; group(3, 3) = NONE");
        sentence("BUILT: THE BOOK, THE SEED, the IMAGES are not of section 1",
            "call(0); keep(1); write(0, 0, 1); seed(5); build(1) = 2; told(6) = 1; told(7) = 0; seed(5) = 5",
            "goBack(0) = NOT; goBack(1) = 1; told(0) = 2; told(2) = 1");
    }

    private static void shaped() {
        sentence("all its LINES are FREE then, as at the beginning, whatever CALLS HELD them",
            "shape(0, 6, 2, 0, 1, 0) = 0; 7 * call(0); damage(0, 0) = 0; damage(0, 5) = 5",
            "shape(0, 6, 2, 0, 1, 0) = 4; group(0, 5) = 63; group(0, 6) = 0; group(0, 7) = 0; line(0, 1, 1) = NONE",
            "told(3) = 1; line(1, 0, 1) = 6; line(1, 0, 2) = 0; group(1, 6) = 1; call(0) = 0; line(0, 0, 1) = 7");
        sentence("(TIME, what was counted stay)",
            "shape(0, 1, 2, 0, 1, 0); call(0) = 0; call(0) = 10; call(1) = 11; damage(1, 1) = 2; told(1) = 4",
            "shape(1, 2, 2, 0, NONE, 0) = 1; told(1) = 4; told(2) = 3; told(4) = 1; group(0, 8) = 2; group(0, 9) = 1",
            "group(0, 10) = 1; group(0, 11) = 0; group(1, 8) = 1; group(1, 9) = 1; group(1, 11) = 1",
            "shape(0, 6, 2, 0, NONE, 0) = 1; group(0, 8) = 2; group(0, 9) = 1; group(0, 10) = 1; group(0, 11) = 0");
        sentence("whatever CALLS HELD them: none, one, all six",
            "shape(0, 6, 0, 0, NONE, 0) = 0; call(0); shape(0, 6, 0, 0, NONE, 0) = 1; 6 * call(0)",
            "shape(0, 1, 0, 0, NONE, 0) = 6; line(0, 0, 0) = 0; line(0, 1, 0) = UNKNOWN; call(0) = 0; call(0) = NONE",
            "shape(0, 6, 0, 0, NONE, 0) = 1; group(0, 5) = 63; group(0, 6) = 0");
    }
}
