import java.util.Arrays;

/** Posts of a net that judge a claim of the whole net by numbers kept at each post. */
public final class PostProofs {
    public static final int NONE = -1, UNKNOWN = -101, OUTSIDE = -102, STATE = -103;

    private static final int MOST_POSTS = 8;
    private static final int MOST_MARK = 3;
    private static final int MOST_NUMBER = 63;
    private static final int MOST_DISTANCE = 4;
    private static final int MOST_COLOURS = 3;
    private static final int LEADER_PART = 8;

    private static final int TWO_COLOURS = 0;
    private static final int THREE_COLOURS = 1;
    private static final int LEADER_EACH = 2;
    private static final int SCATTERED = 3;
    private static final int NO_RINGS = 4;

    private static final int MOST_BELOW = 64;
    private static final int MOST_PROOFS = 100000;
    private static final int MOST_TRIES = 30;
    private static final int MOST_WAYS = 20;
    private static final int TENTHS = 10;

    private final Net net;
    private final Trial trial;
    private final Prover prover;
    private final Mending mending;
    private final int[] proofNow;
    private int schemeNow;
    private int triesDone;
    private int waysDone;

    public PostProofs() {
        net = new Net();
        trial = new Trial(net);
        prover = new Prover(net, trial);
        mending = new Mending(net);
        proofNow = new int[MOST_POSTS];
        schemeNow = TWO_COLOURS;
    }

    // ---- the net

    public int posts(int n) {
        if (n < 1 || n > MOST_POSTS) {
            return OUTSIDE;
        }
        net.clear(n);
        mending.clear();
        Arrays.fill(proofNow, 0);
        return n;
    }

    public int line(int a, int b, boolean is) {
        if (!net.has(a) || !net.has(b)) {
            return UNKNOWN;
        }
        if (a == b) {
            return OUTSIDE;
        }
        int was = net.joined(a, b);
        net.join(a, b, is);
        return was;
    }

    public int mark(int p, int v) {
        if (!net.has(p)) {
            return UNKNOWN;
        }
        if (v < 0 || v > MOST_MARK) {
            return OUTSIDE;
        }
        int was = net.marks[p];
        net.marks[p] = v;
        return was;
    }

    public int scheme(int k) {
        if (k < TWO_COLOURS || k > NO_RINGS) {
            return OUTSIDE;
        }
        int was = schemeNow;
        schemeNow = k;
        return was;
    }

    public int holds() {
        return prover.finds(schemeNow) ? 1 : 0;
    }

    public int sets() {
        return net.setCount();
    }

    public int far(int a, int b) {
        if (!net.has(a) || !net.has(b)) {
            return UNKNOWN;
        }
        net.measure(a);
        return net.away[b];
    }

    // ---- proofs

    public int proof(int p, int v) {
        if (!net.has(p)) {
            return UNKNOWN;
        }
        if (v < 0 || v > MOST_NUMBER) {
            return OUTSIDE;
        }
        int was = proofNow[p];
        proofNow[p] = v;
        return was;
    }

    public int accepts(int p) {
        if (!net.has(p)) {
            return UNKNOWN;
        }
        return Judge.saysYes(net, schemeNow, proofNow, p) ? 1 : 0;
    }

    public int against() {
        int bits = 0;
        for (int p = 0; p < net.size; p++) {
            if (!Judge.saysYes(net, schemeNow, proofNow, p)) {
                bits |= 1 << p;
            }
        }
        return bits;
    }

    public int prove() {
        if (!prover.finds(schemeNow)) {
            return 0;
        }
        System.arraycopy(prover.numbers, 0, proofNow, 0, net.size);
        return 1;
    }

    public int tryAll(int b) {
        int refusal = tryRefusal(b);
        if (refusal != 0) {
            return refusal;
        }
        triesDone++;
        trial.search(schemeNow, b, NONE);
        return trial.standing;
    }

    public int attempt(int b, int i) {
        int refusal = tryRefusal(b);
        if (refusal != 0) {
            return refusal;
        }
        triesDone++;
        trial.search(schemeNow, b, i);
        if (!trial.found) {
            return NONE;
        }
        System.arraycopy(trial.numbers, 0, proofNow, 0, net.size);
        return 1;
    }

    public int numbers() {
        if (!prover.finds(schemeNow)) {
            return NONE;
        }
        int greatest = 0;
        for (int p = 0; p < net.size; p++) {
            greatest = Math.max(greatest, prover.numbers[p]);
        }
        return greatest + 1;
    }

    public long slip(int t, int part) {
        if (t < 0 || t > TENTHS || part < 0 || part > 1) {
            return OUTSIDE;
        }
        int below = lowestBelow(TENTHS - t);
        int above = (TENTHS - t) * below / TENTHS;
        // A power of a fraction in lowest terms is in lowest terms too.
        return power(part == 0 ? above : below, Integer.bitCount(against()));
    }

    // ---- mending

    public int distance(int p, int v) {
        if (!net.has(p)) {
            return UNKNOWN;
        }
        if (v < 0 || v > MOST_DISTANCE) {
            return OUTSIDE;
        }
        int was = mending.distances[p];
        mending.distances[p] = v;
        return was;
    }

    public int restless() {
        int bits = 0;
        for (int p = 0; p < net.size; p++) {
            if (mending.isRestless(p)) {
                bits |= 1 << p;
            }
        }
        return bits;
    }

    public int move(int p) {
        if (!net.has(p)) {
            return UNKNOWN;
        }
        if (!mending.isRestless(p)) {
            return STATE;
        }
        mending.obey(p);
        return mending.distances[p];
    }

    public int mend() {
        return mending.settle();
    }

    public int longest() {
        if (waysRefused()) {
            return STATE;
        }
        waysDone++;
        return mending.longestWay();
    }

    public int shortest() {
        if (waysRefused()) {
            return STATE;
        }
        waysDone++;
        return mending.shortestWay();
    }

    // ---- what is told

    public int count(int what) {
        switch (what) {
            case 0:
                return net.size;
            case 1:
                return net.lineCount();
            case 2:
                return schemeNow;
            case 3:
                return Integer.bitCount(net.leaders());
            case 4:
                return triesDone;
            case 5:
                return waysDone;
            default:
                return OUTSIDE;
        }
    }

    public long digest() {
        long h = mix(197, net.size);
        for (int p = 0; p < net.size; p++) {
            h = mix(h, net.marks[p]);
            h = mix(h, proofNow[p]);
            h = mix(h, mending.distances[p]);
            for (int q = p + 1; q < net.size; q++) {
                h = mix(h, net.joined(p, q));
            }
        }
        h = mix(h, schemeNow);
        h = mix(h, triesDone);
        return mix(h, waysDone);
    }

    private static long mix(long h, long number) {
        return 31 * h + number;
    }

    /** The refusal of a trial by b, or 0 if there is none. */
    private int tryRefusal(int b) {
        if (b < 1 || b > MOST_BELOW) {
            return OUTSIDE;
        }
        if (triesDone >= MOST_TRIES || power(b, net.size) > MOST_PROOFS) {
            return STATE;
        }
        return 0;
    }

    private boolean waysRefused() {
        return net.size > Mending.MOST_WAY_POSTS || waysDone >= MOST_WAYS;
    }

    private static long power(long base, int exponent) {
        long product = 1;
        for (int i = 0; i < exponent; i++) {
            product *= base;
        }
        return product;
    }

    /** What stands below so many tenths in lowest terms: the least of which they are a whole number. */
    private static int lowestBelow(int tenths) {
        for (int below = 1; below < TENTHS; below++) {
            if (tenths * below % TENTHS == 0) {
                return below;
            }
        }
        return TENTHS;
    }

    /** The posts, their lines and marks. */
    private static final class Net {
        final int[] near = new int[MOST_POSTS];
        final int[] marks = new int[MOST_POSTS];
        final int[] away = new int[MOST_POSTS];
        int size = 1;

        void clear(int n) {
            size = n;
            Arrays.fill(near, 0);
            Arrays.fill(marks, 0);
        }

        boolean has(int p) {
            return p >= 0 && p < size;
        }

        int joined(int a, int b) {
            return near[a] >> b & 1;
        }

        void join(int a, int b, boolean is) {
            if (is) {
                near[a] |= 1 << b;
                near[b] |= 1 << a;
            } else {
                near[a] &= ~(1 << b);
                near[b] &= ~(1 << a);
            }
        }

        int lineCount() {
            int ends = 0;
            for (int p = 0; p < size; p++) {
                ends += Integer.bitCount(near[p]);
            }
            return ends / 2;
        }

        /** The posts with mark 1, as bits. */
        int leaders() {
            int bits = 0;
            for (int p = 0; p < size; p++) {
                if (marks[p] == 1) {
                    bits |= 1 << p;
                }
            }
            return bits;
        }

        /** Tells in away how far each post is from one; answers the posts that hang together with it, as bits. */
        int measure(int from) {
            Arrays.fill(away, NONE);
            away[from] = 0;
            int reached = 1 << from;
            int edge = reached;
            for (int lines = 1; lines < size; lines++) {
                edge = nearAny(edge) & ~reached;
                reached |= edge;
                for (int p = 0; p < size; p++) {
                    if ((edge >> p & 1) == 1) {
                        away[p] = lines;
                    }
                }
            }
            return reached;
        }

        private int nearAny(int posts) {
            int bits = 0;
            for (int p = 0; p < size; p++) {
                if ((posts >> p & 1) == 1) {
                    bits |= near[p];
                }
            }
            return bits;
        }

        int setCount() {
            int count = 0;
            for (int p = 0; p < size; p++) {
                if (isLeast(p, measure(p))) {
                    count++;
                }
            }
            return count;
        }

        /** Of a set that p is in, given as bits: each set has just one least post, so that it is met but once. */
        static boolean isLeast(int p, int set) {
            return (set & ((1 << p) - 1)) == 0;
        }
    }

    /** What a post says, seeing itself and its neighbours alone. */
    private static final class Judge {
        static boolean saysYes(Net net, int scheme, int[] numbers, int p) {
            if (!suits(net, scheme, p, numbers[p])) {
                return false;
            }
            switch (scheme) {
                case TWO_COLOURS:
                case THREE_COLOURS:
                    return nearWith(net, numbers, p, numbers[p]) == 0;
                case LEADER_EACH:
                    return followsLeader(net, numbers, p);
                case SCATTERED:
                    return isScattered(net, p);
                default:
                    return hangsOnOne(net, numbers, p);
            }
        }

        /** What p can tell of its own number before it looks at its neighbours: a trial need not go on without it. */
        static boolean suits(Net net, int scheme, int p, int number) {
            switch (scheme) {
                case TWO_COLOURS:
                    return number < 2;
                case THREE_COLOURS:
                    return number < MOST_COLOURS;
                case LEADER_EACH:
                    boolean leads = net.marks[p] == 1;
                    return number % LEADER_PART == 0 ? leads && number / LEADER_PART == p : !leads;
                case SCATTERED:
                    return number == 0;
                default:
                    return number < MOST_POSTS;
            }
        }

        private static int nearWith(Net net, int[] numbers, int p, int number) {
            int count = 0;
            for (int q = 0; q < net.size; q++) {
                if ((net.near[p] >> q & 1) == 1 && numbers[q] == number) {
                    count++;
                }
            }
            return count;
        }

        private static boolean followsLeader(Net net, int[] numbers, int p) {
            int leader = numbers[p] / LEADER_PART;
            for (int q = 0; q < net.size; q++) {
                if ((net.near[p] >> q & 1) == 1 && numbers[q] / LEADER_PART != leader) {
                    return false;
                }
            }
            // With the same leader all round, one line nearer is a number one less.
            return numbers[p] % LEADER_PART == 0 || nearWith(net, numbers, p, numbers[p] - 1) > 0;
        }

        static boolean isScattered(Net net, int p) {
            boolean leaderNear = (net.near[p] & net.leaders()) != 0;
            return leaderNear != (net.marks[p] == 1);
        }

        private static boolean hangsOnOne(Net net, int[] numbers, int p) {
            int nearer = nearWith(net, numbers, p, numbers[p] - 1);
            int farther = nearWith(net, numbers, p, numbers[p] + 1);
            int wanted = numbers[p] == 0 ? 0 : 1;
            return nearer == wanted && nearer + farther == Integer.bitCount(net.near[p]);
        }
    }

    /** Goes through all proofs with small numbers, post 0's least first; leaves those that can't stand early. */
    private static final class Trial {
        final int[] numbers = new int[MOST_POSTS];
        int standing;
        boolean found;
        private final Net net;
        private int schemeTried;
        private int below;
        private int wanted;

        Trial(Net net) {
            this.net = net;
        }

        /** Counts proofs that stand, and stops at the wanted one (from 0), which numbers then has. */
        void search(int scheme, int below, int wanted) {
            schemeTried = scheme;
            this.below = below;
            this.wanted = wanted;
            standing = 0;
            found = false;
            place(this, 0);
        }

        /** Static, as the language rules want a method that calls itself; p is how deep it stands, 8 at most. */
        private static void place(Trial trial, int p) {
            if (!trial.net.has(p)) {
                trial.found = trial.standing == trial.wanted;
                trial.standing++;
                return;
            }
            for (int number = 0; number < trial.below && !trial.found; number++) {
                if (Judge.suits(trial.net, trial.schemeTried, p, number)) {
                    trial.numbers[p] = number;
                    if (trial.stillStands(p)) {
                        place(trial, p + 1);
                    }
                }
            }
        }

        /** Asks the posts that see all they ever see just now that p has its number; others can't be asked yet. */
        private boolean stillStands(int p) {
            for (int q = 0; q <= p; q++) {
                boolean lastSeen = (net.near[q] | 1 << q) >> p == 1;
                if (lastSeen && !Judge.saysYes(net, schemeTried, numbers, q)) {
                    return false;
                }
            }
            return true;
        }
    }

    /** Finds the numbers that prove a claim, if it holds. */
    private static final class Prover {
        final int[] numbers = new int[MOST_POSTS];
        private final Net net;
        private final Trial trial;

        Prover(Net net, Trial trial) {
            this.net = net;
            this.trial = trial;
        }

        /** Whether the claim of a scheme holds: then numbers has the proof. */
        boolean finds(int scheme) {
            Arrays.fill(numbers, 0);
            switch (scheme) {
                case TWO_COLOURS:
                case THREE_COLOURS:
                    // The posts themselves refuse the third colour where two must do.
                    trial.search(scheme, MOST_COLOURS, 0);
                    System.arraycopy(trial.numbers, 0, numbers, 0, net.size);
                    return trial.found;
                case LEADER_EACH:
                    return findsLeaders();
                case SCATTERED:
                    return allScattered();
                default:
                    return findsNoRings();
            }
        }

        private boolean findsLeaders() {
            int leaders = net.leaders();
            for (int p = 0; p < net.size; p++) {
                int set = net.measure(p);
                if (Integer.bitCount(set & leaders) != 1) {
                    return false;
                }
                if (net.marks[p] == 1) {
                    numberFrom(set, LEADER_PART * p);
                }
            }
            return true;
        }

        private boolean allScattered() {
            for (int p = 0; p < net.size; p++) {
                if (!Judge.isScattered(net, p)) {
                    return false;
                }
            }
            return true;
        }

        private boolean findsNoRings() {
            int sets = 0;
            for (int p = 0; p < net.size; p++) {
                int set = net.measure(p);
                if (Net.isLeast(p, set)) {
                    sets++;
                    numberFrom(set, 0);
                }
            }
            // Without rings each line joins two sets that were apart before it.
            return net.lineCount() == net.size - sets;
        }

        /** Gives each post of a set a number, as much above first as it was measured away. */
        private void numberFrom(int set, int first) {
            for (int q = 0; q < net.size; q++) {
                if ((set >> q & 1) == 1) {
                    numbers[q] = first + net.away[q];
                }
            }
        }
    }

    /** Distances that mend themselves, and the ways that they can take. */
    private static final class Mending {
        static final int MOST_WAY_POSTS = 5;
        private static final int MOST_MOVES = 1000;
        private static final int KINDS = MOST_DISTANCE + 1;
        private static final int[] PLACES = {1, 5, 25, 125, 625};
        private static final int MOST_STATES = 3125;
        // Far above the steps that all states with all their moves take.
        private static final int MOST_STEPS = 1000000;

        final int[] distances = new int[MOST_POSTS];
        private final Net net;
        private final int[] tried = new int[MOST_POSTS];
        private final int[] moves = new int[MOST_STATES];
        private final int[] looked = new int[MOST_STATES];
        private final int[] trail = new int[MOST_STATES];

        Mending(Net net) {
            this.net = net;
        }

        void clear() {
            Arrays.fill(distances, 0);
        }

        boolean isRestless(int p) {
            return rule(distances, p) != distances[p];
        }

        void obey(int p) {
            distances[p] = rule(distances, p);
        }

        /** What a post's rule makes of it where the distances are those of a row. */
        private int rule(int[] row, int p) {
            if (p == 0) {
                return 0;
            }
            int least = MOST_DISTANCE - 1;
            for (int q = 0; q < net.size; q++) {
                if (net.joined(p, q) == 1) {
                    least = Math.min(least, row[q]);
                }
            }
            return least + 1;
        }

        int settle() {
            for (int done = 0; done < MOST_MOVES; done++) {
                int p = leastRestless();
                if (p == NONE) {
                    return done;
                }
                obey(p);
            }
            return leastRestless() == NONE ? MOST_MOVES : NONE;
        }

        private int leastRestless() {
            for (int p = 0; p < net.size; p++) {
                if (isRestless(p)) {
                    return p;
                }
            }
            return NONE;
        }

        /** The distances as one number below MOST_STATES; only for nets of up to MOST_WAY_POSTS. */
        private int stateNow() {
            int state = 0;
            for (int p = 0; p < net.size && p < PLACES.length; p++) {
                state += distances[p] * PLACES[p];
            }
            return state;
        }

        /** The state behind a post's rule; the same state if the post is not restless. */
        private int stateBehind(int state, int p) {
            int rest = state;
            for (int q = 0; q < net.size; q++) {
                tried[q] = rest % KINDS;
                rest /= KINDS;
            }
            return state + (rule(tried, p) - tried[p]) * PLACES[p];
        }

        /**
         * Goes down from state to state on a trail, each state but once. In looked stands how many posts of a state
         * were looked at (NONE before it is met, closed when it has left the trail), in moves its longest way so far.
         */
        int longestWay() {
            int closed = net.size + 1;
            int start = stateNow();
            Arrays.fill(looked, NONE);
            int height = 0;
            enter(start, height);
            for (int step = 0; step < MOST_STEPS && looked[start] != closed; step++) {
                int state = trail[height];
                int p = looked[state];
                looked[state]++;
                if (p == net.size) {
                    height = Math.max(height - 1, 0);
                    continue;
                }
                int next = stateBehind(state, p);
                if (next == state) {
                    continue;
                }
                if (looked[next] == NONE && height + 1 < MOST_STATES) {
                    // Looked at once more when the next one is closed, so that its way is known then.
                    looked[state] = p;
                    height++;
                    enter(next, height);
                } else if (looked[next] == closed) {
                    moves[state] = Math.max(moves[state], moves[next] + 1);
                } else {
                    return NONE;
                }
            }
            return moves[start];
        }

        private void enter(int state, int height) {
            trail[height] = state;
            looked[state] = 0;
            moves[state] = 0;
        }

        /** Goes out from the state in rings; trail holds the states in the order in which they are met. */
        int shortestWay() {
            Arrays.fill(moves, NONE);
            int met = 1;
            trail[0] = stateNow();
            moves[trail[0]] = 0;
            for (int at = 0; at < met && at < MOST_STATES; at++) {
                int state = trail[at];
                boolean rests = true;
                for (int p = 0; p < net.size; p++) {
                    int next = stateBehind(state, p);
                    rests = rests && next == state;
                    if (moves[next] == NONE && met < MOST_STATES) {
                        moves[next] = moves[state] + 1;
                        trail[met] = next;
                        met++;
                    }
                }
                if (rests) {
                    return moves[state];
                }
            }
            return NONE;
        }
    }
}
