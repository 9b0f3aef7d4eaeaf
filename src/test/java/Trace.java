import java.util.ArrayList;
import java.util.List;

/**
 * All that can be seen of an object, at once and by what it does later: what can be undone, what the
 * images hold, where calls go, what the book says. Looking destroys, so each look is at an object of its
 * own that went through the same calls; none of them makes more than the 512 that the document allows.
 */
final class Trace {
    private final List<Call> past;
    private final List<Long> seen = new ArrayList<>();

    private Trace(List<Call> past) {
        this.past = past;
    }

    static List<Long> behind(List<Call> past) {
        Trace trace = new Trace(past);
        trace.undoings();
        trace.images();
        trace.callsAndEnds();
        trace.draws();
        trace.bookAndBreaks();
        return trace.seen;
    }

    private TrunkReserve again() {
        TrunkReserve x = new TrunkReserve();
        for (Call call : past) {
            call.on(x);
        }
        return x;
    }

    private void look(TrunkReserve x) {
        for (int what = 0; what <= 8; what++) {
            seen.add((long) x.told(what));
        }
        for (int g = 0; g < x.told(0); g++) {
            for (int what = 0; what <= 14; what++) {
                seen.add((long) x.group(g, what));
            }
            for (int l = 0; l < x.group(g, 0); l++) {
                for (int what = 0; what <= 2; what++) {
                    seen.add((long) x.line(g, l, what));
                }
            }
        }
    }

    private void undoings() {
        TrunkReserve now = again();
        look(now);
        seen.add((long) now.seed(0));
        int kept = now.told(8);
        for (int n = 1; n <= kept; n++) {
            TrunkReserve x = again();
            seen.add((long) x.undo(n));
            look(x);
        }
    }

    private void images() {
        for (int i = 0; i < 2; i++) {
            TrunkReserve x = again();
            seen.add((long) x.goBack(i));
            look(x);
            seen.add((long) x.seed(0));
            placeCalls(x);
        }
    }

    /** Where calls go tells how long lines have been free and where the ring stands. */
    private void placeCalls(TrunkReserve x) {
        for (int g = 0; g < x.told(0); g++) {
            for (int i = 0; i < 3; i++) {
                seen.add((long) x.call(g));
            }
            for (int l = 0; l < x.group(g, 0); l += 2) {
                seen.add((long) x.end(g, l));
            }
            for (int i = 0; i < 4; i++) {
                seen.add((long) x.call(g));
            }
        }
    }

    private void callsAndEnds() {
        TrunkReserve x = again();
        placeCalls(x);
        look(x);
    }

    private void draws() {
        TrunkReserve x = again();
        seen.add((long) x.drift(20));
        look(x);
    }

    private void bookAndBreaks() {
        TrunkReserve x = again();
        for (int g = 0; g < x.told(0); g++) {
            for (int l = 0; l < x.group(g, 0); l++) {
                seen.add((long) x.damage(g, l));
                seen.add((long) x.told(7));
                seen.add((long) x.mend(g, l));
                seen.add((long) x.told(7));
            }
        }
        seen.add((long) x.tear());
    }
}
