import java.util.Arrays;

/** Groups of lines between exchanges, with a reserve against calls that come over. */
public final class TrunkReserve {
    public static final int NONE = -1, UNKNOWN = -1000000001, OUTSIDE = -1000000002, NOT = -1000000003, FULL = -1000000004;

    private static final int FREE = 0, HELD = 1, OUT = 2;
    private static final int MOST_GROUPS = 4, MOST_LINES = 6, MOST_LOAD = 6, LAST_CHOICE = 3;
    private static final int FIRST_GROUPS = 2, FIRST_LINES = 3, FIRST_LOAD = 2;
    private static final int MOST_DRAWS = 20, MOST_UNDONE = 20, MOST_ENTRIES = 20, MOST_IMAGES = 2;
    private static final int MOST_ROUNDS = 30, THOUSAND = 1000;
    private static final long FIRST_WEIGHT = 1000000L;

    private final Net net;
    private final History history;
    private final Image[] images;
    private final Book book;
    private final Draws draws;
    private final Weights weights;
    private final Fraction fraction;
    private final Together together;

    public TrunkReserve() {
        net = new Net();
        history = new History();
        images = new Image[MOST_IMAGES];
        for (int i = 0; i < MOST_IMAGES; i++) {
            images[i] = new Image();
        }
        book = new Book();
        draws = new Draws();
        weights = new Weights();
        fraction = new Fraction();
        together = new Together();
    }

    // ---- groups

    public int told(int what) {
        switch (what) {
            case 0: return net.size;
            case 1: return net.time;
            case 2: return net.calls;
            case 3: return net.heldLines();
            case 4: return net.lostCalls();
            case 5:
                together.settle(net, weights);
                return together.rounds;
            case 6: return book.size;
            case 7: return book.firstWrong(net);
            case 8: return history.size;
            default: return OUTSIDE;
        }
    }

    public int group(int g, int what) {
        Group group = net.groupAt(g);
        if (group == null) {
            return UNKNOWN;
        }
        switch (what) {
            case 0: return group.lines;
            case 1: return group.load;
            case 2: return group.reserve;
            case 3: return group.goesOver;
            case 4: return group.choice;
            case 5: return group.setOf(FREE);
            case 6: return group.setOf(HELD);
            case 7: return group.setOf(OUT);
            case 8: return group.offered;
            case 9: return group.taken;
            case 10: return group.wentOver;
            case 11: return group.lost;
            case 12: return net.nextPlace(g);
            case 13:
                together.settle(net, weights);
                return together.loadOver(g);
            case 14:
                together.settle(net, weights);
                return together.lossOf(g);
            default: return OUTSIDE;
        }
    }

    public int line(int g, int l, int what) {
        Group group = net.groupWithLine(g, l);
        if (group == null) {
            return UNKNOWN;
        }
        switch (what) {
            case 0: return group.state[l];
            case 1: return group.holder[l];
            case 2: return group.cameFor[l];
            default: return OUTSIDE;
        }
    }

    // ---- deeds

    public int build(int groups) {
        if (!isWithin(groups, 1, MOST_GROUPS)) {
            return OUTSIDE;
        }
        history.remember(net);
        int before = net.size;
        net.begin(groups);
        return before;
    }

    public int shape(int g, int n, int a, int reserve, int over, int choice) {
        Group group = net.groupAt(g);
        if (group == null || over == g || (over != NONE && net.groupAt(over) == null)) {
            return UNKNOWN;
        }
        if (!isWithin(n, 1, MOST_LINES) || !isWithin(a, 0, MOST_LOAD)
                || !isWithin(reserve, 0, n) || !isWithin(choice, 0, LAST_CHOICE)) {
            return OUTSIDE;
        }
        history.remember(net);
        int ended = group.count(HELD);
        group.lines = n;
        group.load = a;
        group.reserve = reserve;
        group.goesOver = over;
        group.choice = choice;
        group.freeAllLines();
        return ended;
    }

    public int call(int g) {
        if (net.groupAt(g) == null) {
            return UNKNOWN;
        }
        history.remember(net);
        return net.placeCall(g);
    }

    public int end(int g, int l) {
        Group group = net.groupWithLine(g, l);
        if (group == null) {
            return UNKNOWN;
        }
        if (group.state[l] != HELD) {
            return NOT;
        }
        history.remember(net);
        return net.endCall(group, l);
    }

    public int damage(int g, int l) {
        Group group = net.groupWithLine(g, l);
        if (group == null) {
            return UNKNOWN;
        }
        if (group.state[l] == OUT) {
            return NOT;
        }
        history.remember(net);
        return net.breakLine(group, l);
    }

    public int mend(int g, int l) {
        Group group = net.groupWithLine(g, l);
        if (group == null) {
            return UNKNOWN;
        }
        if (group.state[l] != OUT) {
            return NOT;
        }
        history.remember(net);
        net.mendLine(group, l);
        return group.count(FREE);
    }

    public int drift(int n) {
        if (!isWithin(n, 1, MOST_DRAWS)) {
            return OUTSIDE;
        }
        for (int i = 0; i < n; i++) {
            history.remember(net);
            draws.driftOnce(net);
        }
        return net.heldLines();
    }

    public int undo(int n) {
        if (!isWithin(n, 1, MOST_UNDONE)) {
            return OUTSIDE;
        }
        if (n > history.size) {
            return NOT;
        }
        history.takeBack(n, net);
        return net.time;
    }

    // ---- in the long run

    public long run(int g, int b, int what) {
        Group group = net.groupAt(g);
        if (group == null) {
            return UNKNOWN;
        }
        if (!isWithin(b, 0, MOST_LOAD) || !isWithin(what, 0, 5)) {
            return OUTSIDE;
        }
        weights.weighExactly(group.lines, group.load, group.reserve, b);
        if (what < 2) {
            fraction.become(weights.ofAllHeld(), weights.all());
        } else if (what < 4) {
            fraction.become(weights.ofRefusing(), weights.all());
        } else {
            fraction.become(weights.timesHeld(), weights.all());
        }
        return fraction.part(what % 2);
    }

    public long over(int g, int what) {
        Group group = net.groupAt(g);
        if (group == null) {
            return UNKNOWN;
        }
        if (!isWithin(what, 0, 3)) {
            return OUTSIDE;
        }
        weights.weighExactly(group.lines, group.load, 0, 0);
        fraction.become(group.load * weights.ofAllHeld(), weights.all());
        if (what >= 2) {
            fraction.spreadFromMean(group.lines, group.load);
        }
        return fraction.part(what % 2);
    }

    public int linesFor(int g, int b, int p) {
        Group group = net.groupAt(g);
        if (group == null) {
            return UNKNOWN;
        }
        if (!isWithin(b, 0, MOST_LOAD) || !isWithin(p, 1, THOUSAND - 1)) {
            return OUTSIDE;
        }
        for (int n = 1; n <= MOST_LINES; n++) {
            weights.weighExactly(n, group.load, 0, b);
            if (weights.losesAtMost(p)) {
                return n;
            }
        }
        return NONE;
    }

    public int bestReserve(int g, int b, int p) {
        Group group = net.groupAt(g);
        if (group == null) {
            return UNKNOWN;
        }
        if (!isWithin(b, 0, MOST_LOAD) || !isWithin(p, 1, THOUSAND - 1)) {
            return OUTSIDE;
        }
        for (int r = 0; r <= group.lines; r++) {
            weights.weighExactly(group.lines, group.load, r, b);
            if (weights.losesAtMost(p)) {
                return r;
            }
        }
        return NONE;
    }

    // ---- the book

    public int write(int g, int l, int is) {
        Group group = net.groupWithLine(g, l);
        if (group == null) {
            return UNKNOWN;
        }
        if (!isWithin(is, FREE, OUT)) {
            return OUTSIDE;
        }
        if (book.size >= MOST_ENTRIES) {
            return FULL;
        }
        book.enter(g, l, is);
        return book.size;
    }

    public int tear() {
        int had = book.size;
        book.clear();
        return had;
    }

    // ---- images

    public int seed(int v) {
        if (v < 0) {
            return OUTSIDE;
        }
        int before = draws.seedNow;
        draws.seedNow = v;
        return before;
    }

    public int keep(int i) {
        if (!isWithin(i, 0, MOST_IMAGES - 1)) {
            return UNKNOWN;
        }
        images[i].take(net, draws);
        history.forget();
        return 1;
    }

    public int goBack(int i) {
        if (!isWithin(i, 0, MOST_IMAGES - 1)) {
            return UNKNOWN;
        }
        if (!images[i].kept) {
            return NOT;
        }
        images[i].give(net, draws);
        history.forget();
        return 1;
    }

    private static boolean isWithin(int v, int least, int most) {
        return v >= least && v <= most;
    }

    /** One group: how it is shaped, what was counted of it, and its lines. */
    private static final class Group {
        int lines;
        int load;
        int reserve;
        int goesOver;
        int choice;
        int offered;
        int taken;
        int wentOver;
        int lost;
        int ringStart;
        final int[] state;
        final int[] holder;
        final int[] cameFor;
        final int[] freeSince;

        Group() {
            state = new int[MOST_LINES];
            holder = new int[MOST_LINES];
            cameFor = new int[MOST_LINES];
            freeSince = new int[MOST_LINES];
        }

        void begin() {
            lines = FIRST_LINES;
            load = FIRST_LOAD;
            reserve = 0;
            goesOver = NONE;
            choice = 0;
            offered = 0;
            taken = 0;
            wentOver = 0;
            lost = 0;
            freeAllLines();
        }

        void freeAllLines() {
            ringStart = 0;
            Arrays.fill(state, FREE);
            Arrays.fill(holder, NONE);
            Arrays.fill(cameFor, NONE);
            Arrays.fill(freeSince, 0);
        }

        void copyFrom(Group other) {
            lines = other.lines;
            load = other.load;
            reserve = other.reserve;
            goesOver = other.goesOver;
            choice = other.choice;
            offered = other.offered;
            taken = other.taken;
            wentOver = other.wentOver;
            lost = other.lost;
            ringStart = other.ringStart;
            System.arraycopy(other.state, 0, state, 0, MOST_LINES);
            System.arraycopy(other.holder, 0, holder, 0, MOST_LINES);
            System.arraycopy(other.cameFor, 0, cameFor, 0, MOST_LINES);
            System.arraycopy(other.freeSince, 0, freeSince, 0, MOST_LINES);
        }

        boolean hasLine(int l) {
            return l >= 0 && l < lines;
        }

        int setOf(int wanted) {
            int set = 0;
            for (int l = 0; l < lines; l++) {
                if (state[l] == wanted) {
                    set |= 1 << l;
                }
            }
            return set;
        }

        int count(int wanted) {
            return Integer.bitCount(setOf(wanted));
        }

        int chosenLine() {
            switch (choice) {
                case 1: return lastFree();
                case 2: return longestFree();
                case 3: return firstFreeFrom(ringStart);
                default: return firstFreeFrom(0);
            }
        }

        int firstFreeFrom(int start) {
            for (int i = 0; i < lines; i++) {
                int l = (start + i) % lines;
                if (state[l] == FREE) {
                    return l;
                }
            }
            return NONE;
        }

        int lastFree() {
            for (int l = lines - 1; l >= 0; l--) {
                if (state[l] == FREE) {
                    return l;
                }
            }
            return NONE;
        }

        int longestFree() {
            int best = NONE;
            for (int l = 0; l < lines; l++) {
                if (state[l] == FREE && (best == NONE || freeSince[l] < freeSince[best])) {
                    best = l;
                }
            }
            return best;
        }

        void hold(int l, int call, int forGroup) {
            state[l] = HELD;
            holder[l] = call;
            cameFor[l] = forGroup;
            // The look around the ring wraps by itself, so this may stand behind the last line.
            ringStart = l + 1;
        }

        void letGo(int l, int becomes, int time) {
            state[l] = becomes;
            holder[l] = NONE;
            cameFor[l] = NONE;
            freeSince[l] = time;
        }
    }

    /** All of section 1 of the document: what deeds change, images keep and undoing brings back. */
    private static final class Net {
        int size;
        int time;
        int calls;
        final Group[] groups;

        Net() {
            groups = new Group[MOST_GROUPS];
            for (int g = 0; g < MOST_GROUPS; g++) {
                groups[g] = new Group();
            }
            begin(FIRST_GROUPS);
        }

        void begin(int newSize) {
            size = newSize;
            time = 0;
            calls = 0;
            for (int g = 0; g < MOST_GROUPS; g++) {
                groups[g].begin();
            }
        }

        void copyFrom(Net other) {
            size = other.size;
            time = other.time;
            calls = other.calls;
            for (int g = 0; g < MOST_GROUPS; g++) {
                groups[g].copyFrom(other.groups[g]);
            }
        }

        /** The group of that number, or null if there is none. */
        Group groupAt(int g) {
            return g >= 0 && g < size ? groups[g] : null;
        }

        /** The group of that number, or null if there is none or it has no such line. */
        Group groupWithLine(int g, int l) {
            Group group = groupAt(g);
            return group != null && group.hasLine(l) ? group : null;
        }

        int heldLines() {
            int held = 0;
            for (int g = 0; g < size; g++) {
                held += groups[g].count(HELD);
            }
            return held;
        }

        int lostCalls() {
            int lost = 0;
            for (int g = 0; g < size; g++) {
                lost += groups[g].lost;
            }
            return lost;
        }

        int nextPlace(int g) {
            Group own = groupAt(g);
            if (own == null) {
                return NONE;
            }
            int l = own.chosenLine();
            if (l != NONE) {
                return 10 * g + l;
            }
            Group other = groupAt(own.goesOver);
            if (other == null || other.count(FREE) <= other.reserve) {
                return NONE;
            }
            return 10 * own.goesOver + other.chosenLine();
        }

        int placeCall(int g) {
            Group own = groupAt(g);
            if (own == null) {
                return NONE;
            }
            int place = nextPlace(g);
            int number = calls;
            calls++;
            time++;
            own.offered++;
            int h = place / 10;
            int l = place % 10;
            Group where = place == NONE ? null : groupWithLine(h, l);
            if (where == null) {
                own.lost++;
                return NONE;
            }
            where.hold(l, number, g);
            if (h == g) {
                own.taken++;
            } else {
                own.wentOver++;
            }
            return place;
        }

        int endCall(Group group, int l) {
            int call = group.holder[l];
            time++;
            group.letGo(l, FREE, time);
            return call;
        }

        int breakLine(Group group, int l) {
            int call = group.holder[l];
            // A call that went over is lost to the group it came for, not to the line's group.
            Group cameFor = groupAt(group.cameFor[l]);
            if (cameFor != null) {
                cameFor.lost++;
            }
            time++;
            group.letGo(l, OUT, time);
            return call;
        }

        void mendLine(Group group, int l) {
            time++;
            group.letGo(l, FREE, time);
        }
    }

    /** What was so ahead of each of the latest deeds, in rows that are used again. */
    private static final class History {
        final Net[] rows;
        int next;
        int size;

        History() {
            rows = new Net[MOST_UNDONE];
            for (int i = 0; i < MOST_UNDONE; i++) {
                rows[i] = new Net();
            }
        }

        void remember(Net net) {
            rows[next].copyFrom(net);
            next = (next + 1) % MOST_UNDONE;
            if (size < MOST_UNDONE) {
                size++;
            }
        }

        void forget() {
            size = 0;
        }

        void takeBack(int n, Net net) {
            next = Math.floorMod(next - n, MOST_UNDONE);
            size -= n;
            net.copyFrom(rows[next]);
        }
    }

    private static final class Image {
        final Net net;
        int seedThen;
        boolean kept;

        Image() {
            net = new Net();
        }

        void take(Net from, Draws draws) {
            net.copyFrom(from);
            seedThen = draws.seedNow;
            kept = true;
        }

        void give(Net to, Draws draws) {
            to.copyFrom(net);
            draws.seedNow = seedThen;
        }
    }

    private static final class Book {
        final int[] groups;
        final int[] lines;
        final int[] states;
        int size;

        Book() {
            groups = new int[MOST_ENTRIES];
            lines = new int[MOST_ENTRIES];
            states = new int[MOST_ENTRIES];
        }

        void enter(int g, int l, int is) {
            if (size < MOST_ENTRIES) {
                groups[size] = g;
                lines[size] = l;
                states[size] = is;
                size++;
            }
        }

        void clear() {
            size = 0;
        }

        int firstWrong(Net net) {
            for (int i = 0; i < size; i++) {
                if (isWrong(i, net)) {
                    return i;
                }
            }
            return NONE;
        }

        boolean isWrong(int i, Net net) {
            Group group = net.groupWithLine(groups[i], lines[i]);
            return group == null || group.state[lines[i]] != states[i];
        }
    }

    private static final class Draws {
        int seedNow;

        int draw(int n) {
            seedNow = (int) ((seedNow * 1103515245L + 12345L) % 2147483648L);
            return n > 0 ? seedNow / 65536 % n : 0;
        }

        void driftOnce(Net net) {
            int kind = draw(5);
            int g = draw(net.size);
            Group group = net.groupAt(g);
            if (group == null) {
                return;
            }
            if (kind <= 2) {
                net.placeCall(g);
                return;
            }
            int l = draw(group.lines);
            if (group.hasLine(l) && group.state[l] == HELD) {
                net.endCall(group, l);
            }
        }
    }

    /** The weights of how many lines are held, in the long run. */
    private static final class Weights {
        final long[] weight;
        int lines;
        int reserve;

        Weights() {
            weight = new long[MOST_LINES + 1];
        }

        /** All weights times the same number, which is such that none of them is cut. */
        void weighExactly(int ofLines, int load, int ofReserve, int loadOver) {
            long first = 1;
            for (int k = 2; k <= ofLines; k++) {
                first *= k;
            }
            weigh(first, 1, ofLines, load, ofReserve, loadOver);
        }

        /** The load over is told in parts, so many of which are one. */
        void weigh(long first, int parts, int ofLines, int load, int ofReserve, int loadOver) {
            lines = Math.max(0, Math.min(ofLines, MOST_LINES));
            reserve = ofReserve;
            weight[0] = first;
            for (int k = 0; k < lines; k++) {
                long comes = (long) parts * load + (takesOver(k) ? loadOver : 0);
                long ends = Math.max(1L, (long) parts * (k + 1));
                weight[k + 1] = weight[k] * comes / ends;
            }
        }

        boolean takesOver(int held) {
            return lines - held > reserve;
        }

        long all() {
            long sum = 0;
            for (int k = 0; k <= lines; k++) {
                sum += weight[k];
            }
            return sum;
        }

        long ofAllHeld() {
            return weight[lines];
        }

        long ofRefusing() {
            long sum = 0;
            for (int k = 0; k <= lines; k++) {
                if (!takesOver(k)) {
                    sum += weight[k];
                }
            }
            return sum;
        }

        long timesHeld() {
            long sum = 0;
            for (int k = 0; k <= lines; k++) {
                sum += k * weight[k];
            }
            return sum;
        }

        boolean losesAtMost(int thousandths) {
            return THOUSAND * ofAllHeld() <= thousandths * all();
        }
    }

    private static final class Fraction {
        long above;
        long below;

        Fraction() {
            below = 1;
        }

        void become(long newAbove, long newBelow) {
            long divisor = commonDivisor(Math.abs(newAbove), Math.abs(newBelow));
            if (newBelow == 0 || divisor == 0) {
                above = 0;
                below = 1;
                return;
            }
            long signed = newBelow < 0 ? -divisor : divisor;
            above = newAbove / signed;
            below = newBelow / signed;
        }

        static long commonDivisor(long a, long b) {
            long larger = a;
            long smaller = b;
            // Two numbers of 63 bits are through after 92 steps at most.
            for (int i = 0; i < 100 && smaller != 0; i++) {
                long left = larger % smaller;
                larger = smaller;
                smaller = left;
            }
            return larger;
        }

        long part(int which) {
            return which == 0 ? above : below;
        }

        /**
         * Spread = m/q times (1 - m/q + load q/d), where m/q is the mean that stands here
         * and d/q = lines + 1 - load + m/q; all over one, q q d.
         */
        void spreadFromMean(int lines, int load) {
            long m = above;
            long q = below;
            long d = (lines + 1 - load) * q + m;
            become(m * ((q - m) * d + load * q * q), q * q * d);
        }
    }

    /** All groups at once, each sending over what it cannot take, in thousandths. */
    private static final class Together {
        final int[] loads;
        final int[] newLoads;
        final int[] losses;
        int rounds;

        Together() {
            loads = new int[MOST_GROUPS];
            newLoads = new int[MOST_GROUPS];
            losses = new int[MOST_GROUPS];
        }

        int loadOver(int g) {
            return g >= 0 && g < MOST_GROUPS ? loads[g] : 0;
        }

        int lossOf(int g) {
            return g >= 0 && g < MOST_GROUPS ? losses[g] : 0;
        }

        void settle(Net net, Weights weights) {
            Arrays.fill(loads, 0);
            boolean changes = true;
            for (int round = 1; round <= MOST_ROUNDS && changes; round++) {
                rounds = round;
                loseEach(net, weights);
                sendOver(net);
                changes = takeNewLoads();
            }
        }

        void loseEach(Net net, Weights weights) {
            for (int g = 0; g < net.size; g++) {
                Group group = net.groups[g];
                weights.weigh(FIRST_WEIGHT, THOUSAND, group.lines, group.load, group.reserve, loads[g]);
                long all = weights.all();
                losses[g] = all > 0 ? (int) (THOUSAND * weights.ofAllHeld() / all) : 0;
            }
        }

        void sendOver(Net net) {
            Arrays.fill(newLoads, 0);
            for (int g = 0; g < net.size; g++) {
                Group group = net.groups[g];
                if (net.groupAt(group.goesOver) != null) {
                    newLoads[group.goesOver] += group.load * losses[g];
                }
            }
        }

        boolean takeNewLoads() {
            boolean changed = false;
            for (int g = 0; g < MOST_GROUPS; g++) {
                changed |= loads[g] != newLoads[g];
                loads[g] = newLoads[g];
            }
            return changed;
        }
    }
}
