import java.math.BigInteger;
import java.util.ArrayList;
import java.util.List;

/**
 * The document told a second time, in another way: nothing is changed in place, a deed makes a new
 * world, and fractions are whole numbers of any size. Slow and plain, to hold the class against.
 */
final class Model {
    static final int NONE = -1, UNKNOWN = -1000000001, OUTSIDE = -1000000002, NOT = -1000000003, FULL = -1000000004;

    record Line(int is, int call, int from, int since) { }

    record Group(int n, int a, int r, int over, int choice, int last, List<Integer> counts, List<Line> lines) { }

    record World(int time, int calls, List<Group> groups) { }

    record Fraction(BigInteger above, BigInteger below) {
        static Fraction of(long whole) {
            return new Fraction(BigInteger.valueOf(whole), BigInteger.ONE);
        }

        Fraction lowest() {
            BigInteger d = above.gcd(below).multiply(BigInteger.valueOf(below.signum()));
            return new Fraction(above.divide(d), below.divide(d));
        }

        Fraction plus(Fraction f) {
            return new Fraction(above.multiply(f.below).add(f.above.multiply(below)), below.multiply(f.below)).lowest();
        }

        Fraction times(Fraction f) {
            return new Fraction(above.multiply(f.above), below.multiply(f.below)).lowest();
        }

        Fraction by(Fraction f) {
            return new Fraction(above.multiply(f.below), below.multiply(f.above)).lowest();
        }

        Fraction less(Fraction f) {
            return plus(f.times(of(-1)));
        }

        long part(int which) {
            return (which == 0 ? above : below).longValueExact();
        }
    }

    private World now = beginning(2);
    private long seed = 0;
    private List<World> past = new ArrayList<>();
    private final World[] images = new World[2];
    private final long[] seeds = new long[2];
    private final List<int[]> book = new ArrayList<>();

    private static World beginning(int groups) {
        List<Group> all = new ArrayList<>();
        for (int g = 0; g < groups; g++) {
            all.add(new Group(3, 2, 0, NONE, 0, NONE, List.of(0, 0, 0, 0), freeLines(3)));
        }
        return new World(0, 0, all);
    }

    private static List<Line> freeLines(int n) {
        List<Line> lines = new ArrayList<>();
        for (int l = 0; l < n; l++) {
            lines.add(new Line(0, NONE, NONE, -1));
        }
        return lines;
    }

    private static <T> List<T> with(List<T> list, int i, T what) {
        List<T> copy = new ArrayList<>(list);
        copy.set(i, what);
        return copy;
    }

    private static World withGroup(World w, int g, Group group) {
        return new World(w.time, w.calls, with(w.groups, g, group));
    }

    private static World counted(World w, int g, int which) {
        Group o = w.groups.get(g);
        List<Integer> counts = with(o.counts, which, o.counts.get(which) + 1);
        return withGroup(w, g, new Group(o.n, o.a, o.r, o.over, o.choice, o.last, counts, o.lines));
    }

    private static World withLine(World w, int g, int l, Line line, int last) {
        Group o = w.groups.get(g);
        return withGroup(w, g, new Group(o.n, o.a, o.r, o.over, o.choice, last, o.counts, with(o.lines, l, line)));
    }

    private static World later(World w) {
        return new World(w.time + 1, w.calls, w.groups);
    }

    private boolean isGroup(int g) {
        return 0 <= g && g < now.groups.size();
    }

    private boolean isLine(int g, int l) {
        return isGroup(g) && 0 <= l && l < now.groups.get(g).n;
    }

    private Line lineAt(int g, int l) {
        return now.groups.get(g).lines.get(l);
    }

    private void deed(World next) {
        past.add(now);
        if (past.size() > 20) {
            past.remove(0);
        }
        now = next;
    }

    private static int lineBefore(Group group, int a, int b) {
        int n = group.n;
        return switch (group.choice) {
            case 0 -> a - b;
            case 1 -> b - a;
            case 2 -> group.lines.get(a).since != group.lines.get(b).since
                ? group.lines.get(a).since - group.lines.get(b).since : a - b;
            default -> (a - group.last - 1 + 2 * n) % n - (b - group.last - 1 + 2 * n) % n;
        };
    }

    private static int bestLine(Group group) {
        int best = NONE;
        for (int l = 0; l < group.n; l++) {
            if (group.lines.get(l).is == 0 && (best == NONE || lineBefore(group, l, best) < 0)) {
                best = l;
            }
        }
        return best;
    }

    private int next(int g) {
        Group own = now.groups.get(g);
        if (bestLine(own) != NONE) {
            return 10 * g + bestLine(own);
        }
        if (own.over == NONE) {
            return NONE;
        }
        Group other = now.groups.get(own.over);
        return other.lines.stream().filter(l -> l.is == 0).count() > other.r ? 10 * own.over + bestLine(other) : NONE;
    }

    private World called(int g) {
        int place = next(g);
        World w = counted(new World(now.time + 1, now.calls + 1, now.groups), g, 0);
        if (place == NONE) {
            return counted(w, g, 3);
        }
        World held = withLine(w, place / 10, place % 10, new Line(1, now.calls, g, 0), place % 10);
        return counted(held, g, place / 10 == g ? 1 : 2);
    }

    private World freed(int g, int l) {
        return withLine(later(now), g, l, new Line(0, NONE, NONE, now.time), now.groups.get(g).last);
    }

    private long draw(int n) {
        seed = BigInteger.valueOf(seed).multiply(BigInteger.valueOf(1103515245)).add(BigInteger.valueOf(12345))
            .mod(BigInteger.TWO.pow(31)).longValueExact();
        return seed / 65536 % n;
    }

    private int held() {
        return now.groups.stream().mapToInt(g -> (int) g.lines.stream().filter(l -> l.is == 1).count()).sum();
    }

    /** Rounds, then B and P of each group. */
    private List<Long> together() {
        int size = now.groups.size();
        List<Long> b = new ArrayList<>();
        for (int g = 0; g < size; g++) {
            b.add(0L);
        }
        List<Long> p = new ArrayList<>();
        long rounds = 0;
        boolean same = false;
        while (!same && rounds < 30) {
            rounds++;
            p = new ArrayList<>();
            List<Long> sent = new ArrayList<>(b);
            sent.replaceAll(x -> 0L);
            for (int g = 0; g < size; g++) {
                Group o = now.groups.get(g);
                p.add(lossInThousandths(o, b.get(g)));
                if (o.over != NONE) {
                    sent.set(o.over, sent.get(o.over) + o.a * p.get(g));
                }
            }
            same = sent.equals(b);
            b = sent;
        }
        List<Long> all = new ArrayList<>(List.of(rounds));
        all.addAll(b);
        all.addAll(p);
        return all;
    }

    private static long lossInThousandths(Group o, long b) {
        long weight = 1000000;
        long all = weight;
        for (int k = 0; k < o.n; k++) {
            weight = weight * (1000L * o.a + (o.n - k > o.r ? b : 0)) / (1000L * (k + 1));
            all += weight;
        }
        return 1000 * weight / all;
    }

    static List<Fraction> weights(int n, int a, int r, int b) {
        List<Fraction> w = new ArrayList<>(List.of(Fraction.of(1)));
        for (int k = 0; k < n; k++) {
            w.add(w.get(k).times(Fraction.of(a + (n - k > r ? b : 0))).by(Fraction.of(k + 1)));
        }
        return w;
    }

    static Fraction sum(List<Fraction> all) {
        return all.stream().reduce(Fraction.of(0), Fraction::plus);
    }

    static Fraction loss(int n, int a, int r, int b) {
        List<Fraction> w = weights(n, a, r, b);
        return w.get(n).by(sum(w));
    }

    static Fraction lossOver(int n, int a, int r, int b) {
        List<Fraction> w = weights(n, a, r, b);
        return sum(w.subList(n - r, n + 1)).by(sum(w));
    }

    static Fraction busy(int n, int a, int r, int b) {
        List<Fraction> w = weights(n, a, r, b);
        Fraction top = Fraction.of(0);
        for (int k = 0; k <= n; k++) {
            top = top.plus(w.get(k).times(Fraction.of(k)));
        }
        return top.by(sum(w));
    }

    static Fraction mean(int n, int a) {
        return Fraction.of(a).times(loss(n, a, 0, 0));
    }

    static Fraction spread(int n, int a) {
        Fraction m = mean(n, a);
        return m.times(Fraction.of(1).less(m).plus(Fraction.of(a).by(Fraction.of(n + 1 - a).plus(m))));
    }

    private static boolean atMost(Fraction f, int p) {
        return Fraction.of(p).by(Fraction.of(1000)).less(f).above.signum() >= 0;
    }

    int told(int what) {
        return switch (what) {
            case 0 -> now.groups.size();
            case 1 -> now.time;
            case 2 -> now.calls;
            case 3 -> held();
            case 4 -> now.groups.stream().mapToInt(g -> g.counts.get(3)).sum();
            case 5 -> together().get(0).intValue();
            case 6 -> book.size();
            case 7 -> wrong();
            case 8 -> past.size();
            default -> OUTSIDE;
        };
    }

    private int wrong() {
        for (int i = 0; i < book.size(); i++) {
            int[] e = book.get(i);
            if (!isLine(e[0], e[1]) || lineAt(e[0], e[1]).is != e[2]) {
                return i;
            }
        }
        return NONE;
    }

    int group(int g, int what) {
        if (!isGroup(g)) {
            return UNKNOWN;
        }
        if (what < 0 || what > 14) {
            return OUTSIDE;
        }
        Group o = now.groups.get(g);
        if (what < 5) {
            return List.of(o.n, o.a, o.r, o.over, o.choice).get(what);
        }
        if (what < 8) {
            int set = 0;
            for (int l = 0; l < o.n; l++) {
                set += o.lines.get(l).is == what - 5 ? (int) Math.pow(2, l) : 0;
            }
            return set;
        }
        if (what < 12) {
            return o.counts.get(what - 8);
        }
        return what == 12 ? next(g) : together().get(1 + g + (what - 13) * now.groups.size()).intValue();
    }

    int line(int g, int l, int what) {
        if (!isLine(g, l)) {
            return UNKNOWN;
        }
        if (what < 0 || what > 2) {
            return OUTSIDE;
        }
        Line line = lineAt(g, l);
        return List.of(line.is, line.call, line.from).get(what);
    }

    int build(int groups) {
        if (groups < 1 || groups > 4) {
            return OUTSIDE;
        }
        int before = now.groups.size();
        deed(beginning(groups));
        return before;
    }

    int shape(int g, int n, int a, int reserve, int over, int choice) {
        if (!isGroup(g) || g == over || over != NONE && !isGroup(over)) {
            return UNKNOWN;
        }
        if (n < 1 || n > 6 || a < 0 || a > 6 || reserve < 0 || reserve > n || choice < 0 || choice > 3) {
            return OUTSIDE;
        }
        Group o = now.groups.get(g);
        deed(withGroup(now, g, new Group(n, a, reserve, over, choice, NONE, o.counts, freeLines(n))));
        return (int) o.lines.stream().filter(l -> l.is == 1).count();
    }

    int call(int g) {
        if (!isGroup(g)) {
            return UNKNOWN;
        }
        int place = next(g);
        deed(called(g));
        return place;
    }

    int end(int g, int l) {
        if (!isLine(g, l)) {
            return UNKNOWN;
        }
        if (lineAt(g, l).is != 1) {
            return NOT;
        }
        int call = lineAt(g, l).call;
        deed(freed(g, l));
        return call;
    }

    int damage(int g, int l) {
        if (!isLine(g, l)) {
            return UNKNOWN;
        }
        Line line = lineAt(g, l);
        if (line.is == 2) {
            return NOT;
        }
        World w = withLine(later(now), g, l, new Line(2, NONE, NONE, 0), now.groups.get(g).last);
        deed(line.is == 1 ? counted(w, line.from, 3) : w);
        return line.call;
    }

    int mend(int g, int l) {
        if (!isLine(g, l)) {
            return UNKNOWN;
        }
        if (lineAt(g, l).is != 2) {
            return NOT;
        }
        deed(freed(g, l));
        return (int) now.groups.get(g).lines.stream().filter(x -> x.is == 0).count();
    }

    int drift(int n) {
        if (n < 1 || n > 20) {
            return OUTSIDE;
        }
        for (int i = 0; i < n; i++) {
            long kind = draw(5);
            int g = (int) draw(now.groups.size());
            if (kind < 3) {
                deed(called(g));
            } else {
                int l = (int) draw(now.groups.get(g).n);
                deed(lineAt(g, l).is == 1 ? freed(g, l) : now);
            }
        }
        return held();
    }

    int undo(int n) {
        if (n < 1 || n > 20) {
            return OUTSIDE;
        }
        if (past.size() < n) {
            return NOT;
        }
        now = past.get(past.size() - n);
        past = new ArrayList<>(past.subList(0, past.size() - n));
        return now.time;
    }

    long run(int g, int b, int what) {
        if (!isGroup(g)) {
            return UNKNOWN;
        }
        if (b < 0 || b > 6 || what < 0 || what > 5) {
            return OUTSIDE;
        }
        Group o = now.groups.get(g);
        Fraction f = what < 2 ? loss(o.n, o.a, o.r, b) : what < 4 ? lossOver(o.n, o.a, o.r, b) : busy(o.n, o.a, o.r, b);
        return f.part(what % 2);
    }

    long over(int g, int what) {
        if (!isGroup(g)) {
            return UNKNOWN;
        }
        if (what < 0 || what > 3) {
            return OUTSIDE;
        }
        Group o = now.groups.get(g);
        return (what < 2 ? mean(o.n, o.a) : spread(o.n, o.a)).part(what % 2);
    }

    int linesFor(int g, int b, int p) {
        if (!isGroup(g)) {
            return UNKNOWN;
        }
        if (b < 0 || b > 6 || p < 1 || p > 999) {
            return OUTSIDE;
        }
        for (int n = 1; n <= 6; n++) {
            if (atMost(loss(n, now.groups.get(g).a, 0, b), p)) {
                return n;
            }
        }
        return NONE;
    }

    int bestReserve(int g, int b, int p) {
        if (!isGroup(g)) {
            return UNKNOWN;
        }
        if (b < 0 || b > 6 || p < 1 || p > 999) {
            return OUTSIDE;
        }
        Group o = now.groups.get(g);
        for (int r = 0; r <= o.n; r++) {
            if (atMost(loss(o.n, o.a, r, b), p)) {
                return r;
            }
        }
        return NONE;
    }

    int write(int g, int l, int is) {
        if (!isLine(g, l)) {
            return UNKNOWN;
        }
        if (is < 0 || is > 2) {
            return OUTSIDE;
        }
        if (book.size() == 20) {
            return FULL;
        }
        book.add(new int[] {g, l, is});
        return book.size();
    }

    int tear() {
        int had = book.size();
        book.clear();
        return had;
    }

    int seed(int v) {
        if (v < 0) {
            return OUTSIDE;
        }
        int before = (int) seed;
        seed = v;
        return before;
    }

    int keep(int i) {
        if (i != 0 && i != 1) {
            return UNKNOWN;
        }
        images[i] = now;
        seeds[i] = seed;
        past.clear();
        return 1;
    }

    int goBack(int i) {
        if (i != 0 && i != 1) {
            return UNKNOWN;
        }
        if (images[i] == null) {
            return NOT;
        }
        now = images[i];
        seed = seeds[i];
        past.clear();
        return 1;
    }
}
