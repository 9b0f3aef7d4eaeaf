import java.util.ArrayList;
import java.util.List;

/**
 * Runs of calls on new objects, told row by row as "call(0) = NONE", each with the answer that is due; a
 * row may be repeated ("20 * call(0)") and several may stand in one text, with ';' between them.
 * A row that is refused, or that only asks, must change nothing: it is held against a twin without it.
 */
final class Script {
    private final Checks checks;

    Script(Checks checks) {
        this.checks = checks;
    }

    /** The words are those of the document. */
    void sentence(String words, String... rows) {
        List<Call> past = new ArrayList<>();
        TrunkReserve x = new TrunkReserve();
        for (String text : rows) {
            for (String row : text.split(";")) {
                playRow(words, row.trim(), x, past);
            }
        }
    }

    private void playRow(String words, String row, TrunkReserve x, List<Call> past) {
        String[] sides = row.split(" = ");
        String[] times = sides[0].split(" \\* ");
        int count = times.length > 1 ? Integer.parseInt(times[0]) : 1;
        Call call = Call.read(times[times.length - 1]);
        for (int i = 0; i < count; i++) {
            long got = call.on(x);
            if (sides.length > 1) {
                checks.due(words + ": row " + past.size() + ", " + call, got, answer(sides[1].trim()));
            }
            if (call.onlyAsks() || isRefusal(got)) {
                changesNothing(words, call, past);
            } else {
                past.add(call);
            }
        }
    }

    /** What asks or is refused is left out of the past: if it changes nothing, it is not missed. */
    void changesNothing(String words, Call call, List<Call> past) {
        List<Call> longer = new ArrayList<>(past);
        longer.add(call);
        checks.holds(words + ": behind row " + past.size() + ", " + call + " changes nothing",
            Trace.behind(past).equals(Trace.behind(longer)));
    }

    static boolean isRefusal(long answer) {
        return answer <= TrunkReserve.UNKNOWN && answer >= TrunkReserve.FULL;
    }

    static long answer(String text) {
        return switch (text) {
            case "NONE" -> -1L;
            case "UNKNOWN" -> -1000000001L;
            case "OUTSIDE" -> -1000000002L;
            case "NOT" -> -1000000003L;
            case "FULL" -> -1000000004L;
            default -> Long.parseLong(text);
        };
    }
}
