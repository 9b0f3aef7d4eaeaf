import java.util.ArrayList;
import java.util.Arrays;
import java.util.List;
import java.util.Set;
import java.util.stream.Collectors;

/** One call of the face with its arguments, so that a test can hold it, print it, and play it on many objects. */
record Call(String name, List<Integer> args) {
    private static final Set<String> ASKING = Set.of("told", "group", "line", "run", "over", "linesFor", "bestReserve");

    static Call of(String name, int... args) {
        return new Call(name, Arrays.stream(args).boxed().toList());
    }

    /** From a text like "end(0, 2)"; an argument is a number, NONE, MAX or MIN. */
    static Call read(String text) {
        String[] parts = text.trim().split("[(,)]");
        List<Integer> args = new ArrayList<>();
        for (int i = 1; i < parts.length; i++) {
            args.add(argument(parts[i].trim()));
        }
        return new Call(parts[0], args);
    }

    private static int argument(String text) {
        return switch (text) {
            case "NONE" -> -1;
            case "MAX" -> Integer.MAX_VALUE;
            case "MIN" -> Integer.MIN_VALUE;
            default -> Integer.parseInt(text);
        };
    }

    boolean onlyAsks() {
        return ASKING.contains(name);
    }

    private int arg(int i) {
        return args.get(i);
    }

    long on(TrunkReserve x) {
        return switch (name) {
            case "told" -> x.told(arg(0));
            case "group" -> x.group(arg(0), arg(1));
            case "line" -> x.line(arg(0), arg(1), arg(2));
            case "build" -> x.build(arg(0));
            case "shape" -> x.shape(arg(0), arg(1), arg(2), arg(3), arg(4), arg(5));
            case "call" -> x.call(arg(0));
            case "end" -> x.end(arg(0), arg(1));
            case "damage" -> x.damage(arg(0), arg(1));
            case "mend" -> x.mend(arg(0), arg(1));
            case "drift" -> x.drift(arg(0));
            case "undo" -> x.undo(arg(0));
            case "run" -> x.run(arg(0), arg(1), arg(2));
            case "over" -> x.over(arg(0), arg(1));
            case "linesFor" -> x.linesFor(arg(0), arg(1), arg(2));
            case "bestReserve" -> x.bestReserve(arg(0), arg(1), arg(2));
            case "write" -> x.write(arg(0), arg(1), arg(2));
            case "tear" -> x.tear();
            case "seed" -> x.seed(arg(0));
            case "keep" -> x.keep(arg(0));
            case "goBack" -> x.goBack(arg(0));
            default -> throw new IllegalArgumentException(name);
        };
    }

    @Override
    public String toString() {
        return name + args.stream().map(String::valueOf).collect(Collectors.joining(", ", "(", ")"));
    }
}
