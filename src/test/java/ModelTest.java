import java.util.ArrayDeque;
import java.util.ArrayList;
import java.util.Arrays;
import java.util.HashMap;
import java.util.List;
import java.util.Map;
import java.util.Random;

/** Long runs of calls, each answer held against a second reading of the document that tries everything plainly. */
public final class ModelTest {
    private static final int NONE = -1, UNKNOWN = -101, OUTSIDE = -102, STATE = -103;
    private static final int RUNS = 600;
    private static final int CALLS = 300;

    /** The document word by word, without a thought of speed. */
    private static final class Model {
        int n = 1;
        boolean[][] lines = new boolean[8][8];
        int[] marks = new int[8];
        int[] proof = new int[8];
        int[] distances = new int[8];
        int scheme = 0;
        int tries = 0;
        int ways = 0;

        boolean known(int p) {
            return 0 <= p && p < n;
        }

        int posts(int k) {
            if (k < 1 || k > 8) {
                return OUTSIDE;
            }
            n = k;
            lines = new boolean[8][8];
            marks = new int[8];
            proof = new int[8];
            distances = new int[8];
            return n;
        }

        int line(int a, int b, boolean is) {
            if (!known(a) || !known(b)) {
                return UNKNOWN;
            }
            if (a == b) {
                return OUTSIDE;
            }
            int was = lines[a][b] ? 1 : 0;
            lines[a][b] = is;
            lines[b][a] = is;
            return was;
        }

        int put(int[] row, int p, int v, int most) {
            if (!known(p)) {
                return UNKNOWN;
            }
            if (v < 0 || v > most) {
                return OUTSIDE;
            }
            int was = row[p];
            row[p] = v;
            return was;
        }

        int setScheme(int k) {
            if (k < 0 || k > 4) {
                return OUTSIDE;
            }
            int was = scheme;
            scheme = k;
            return was;
        }

        List<Integer> neighbours(int p) {
            List<Integer> list = new ArrayList<>();
            for (int q = 0; q < n; q++) {
                if (lines[p][q]) {
                    list.add(q);
                }
            }
            return list;
        }

        /** All least ways at once, by going over every post as a stop on the way. */
        int[][] ways() {
            int[][] far = new int[n][n];
            for (int a = 0; a < n; a++) {
                for (int b = 0; b < n; b++) {
                    far[a][b] = a == b ? 0 : lines[a][b] ? 1 : 1000;
                }
            }
            for (int m = 0; m < n; m++) {
                for (int a = 0; a < n; a++) {
                    for (int b = 0; b < n; b++) {
                        far[a][b] = Math.min(far[a][b], far[a][m] + far[m][b]);
                    }
                }
            }
            return far;
        }

        int sets() {
            int[][] far = ways();
            int count = 0;
            for (int p = 0; p < n; p++) {
                boolean first = true;
                for (int q = 0; q < p; q++) {
                    first &= far[p][q] >= 1000;
                }
                count += first ? 1 : 0;
            }
            return count;
        }

        int far(int a, int b) {
            if (!known(a) || !known(b)) {
                return UNKNOWN;
            }
            int far = ways()[a][b];
            return far >= 1000 ? NONE : far;
        }

        boolean accepts(int[] row, int p) {
            int own = row[p];
            int less = 0;
            int more = 0;
            int alike = 0;
            int oneNearer = 0;
            int otherLeader = 0;
            int marked = 0;
            for (int q : neighbours(p)) {
                less += row[q] == own - 1 ? 1 : 0;
                more += row[q] == own + 1 ? 1 : 0;
                alike += row[q] == own ? 1 : 0;
                oneNearer += row[q] % 8 == own % 8 - 1 ? 1 : 0;
                otherLeader += row[q] / 8 != own / 8 ? 1 : 0;
                marked += marks[q] == 1 ? 1 : 0;
            }
            int degree = neighbours(p).size();
            switch (scheme) {
                case 0:
                    return (own == 0 || own == 1) && alike == 0;
                case 1:
                    return (own == 0 || own == 1 || own == 2) && alike == 0;
                case 2:
                    if (otherLeader > 0) {
                        return false;
                    }
                    return own % 8 == 0 ? p == own / 8 && marks[p] == 1 : marks[p] != 1 && oneNearer > 0;
                case 3:
                    return own == 0 && (marks[p] == 1 ? marked == 0 : marked > 0);
                default:
                    if (own > 7) {
                        return false;
                    }
                    return own == 0 ? more == degree : less == 1 && more == degree - 1;
            }
        }

        int acceptsOne(int p) {
            return !known(p) ? UNKNOWN : accepts(proof, p) ? 1 : 0;
        }

        int against(int[] row) {
            int bits = 0;
            for (int p = 0; p < n; p++) {
                bits += accepts(row, p) ? 0 : 1 << p;
            }
            return bits;
        }

        /** All proofs below b that stand, in order; at most as many as are wanted. */
        List<int[]> standing(int b, int wanted) {
            List<int[]> list = new ArrayList<>();
            int all = (int) Math.pow(b, n);
            for (int code = 0; code < all && list.size() < wanted; code++) {
                int[] row = new int[8];
                int rest = code;
                for (int p = n - 1; p >= 0; p--) {
                    row[p] = rest % b;
                    rest /= b;
                }
                if (against(row) == 0) {
                    list.add(row);
                }
            }
            return list;
        }

        boolean holds() {
            int[][] far = ways();
            switch (scheme) {
                case 0:
                    return !standing(2, 1).isEmpty();
                case 1:
                    return !standing(3, 1).isEmpty();
                case 2:
                    for (int p = 0; p < n; p++) {
                        int leaders = 0;
                        for (int q = 0; q < n; q++) {
                            leaders += far[p][q] < 1000 && marks[q] == 1 ? 1 : 0;
                        }
                        if (leaders != 1) {
                            return false;
                        }
                    }
                    return true;
                case 3:
                    for (int p = 0; p < n; p++) {
                        boolean near = false;
                        for (int q : neighbours(p)) {
                            near |= marks[q] == 1;
                            if (marks[p] == 1 && marks[q] == 1) {
                                return false;
                            }
                        }
                        if (marks[p] != 1 && !near) {
                            return false;
                        }
                    }
                    return true;
                default:
                    return !hasRing();
            }
        }

        /** Takes away posts with one line or none, again and again: what is left has a ring. */
        boolean hasRing() {
            boolean[] gone = new boolean[n];
            int left = n;
            for (int round = 0; round <= n; round++) {
                for (int p = 0; p < n; p++) {
                    int degree = 0;
                    for (int q : neighbours(p)) {
                        degree += gone[q] ? 0 : 1;
                    }
                    if (!gone[p] && degree <= 1) {
                        gone[p] = true;
                        left--;
                    }
                }
            }
            return left > 0;
        }

        int[] prover() {
            if (!holds()) {
                return null;
            }
            if (scheme <= 1) {
                return standing(scheme + 2, 1).get(0);
            }
            int[] row = new int[8];
            int[][] far = ways();
            for (int p = 0; p < n; p++) {
                for (int q = n - 1; q >= 0; q--) {
                    if (far[p][q] < 1000 && scheme == 2 && marks[q] == 1) {
                        row[p] = 8 * q + far[p][q];
                    }
                    if (far[p][q] < 1000 && scheme == 4) {
                        row[p] = far[p][q];
                    }
                }
            }
            return row;
        }

        int prove() {
            int[] row = prover();
            if (row == null) {
                return 0;
            }
            proof = row;
            return 1;
        }

        int numbers() {
            int[] row = prover();
            return row == null ? NONE : Arrays.stream(row).max().getAsInt() + 1;
        }

        int refusal(int b) {
            if (b < 1 || b > 64) {
                return OUTSIDE;
            }
            return Math.pow(b, n) > 100000 || tries >= 30 ? STATE : 0;
        }

        int tryAll(int b) {
            if (refusal(b) != 0) {
                return refusal(b);
            }
            tries++;
            return standing(b, Integer.MAX_VALUE).size();
        }

        int attempt(int b, int i) {
            if (refusal(b) != 0) {
                return refusal(b);
            }
            tries++;
            List<int[]> list = standing(b, Integer.MAX_VALUE);
            if (i < 0 || i >= list.size()) {
                return NONE;
            }
            proof = list.get(i);
            return 1;
        }

        long slip(int t, int part) {
            if (t < 0 || t > 10 || part < 0 || part > 1) {
                return OUTSIDE;
            }
            long above = 1;
            long below = 1;
            for (int p = 0; p < n; p++) {
                if (!accepts(proof, p)) {
                    above *= 10 - t;
                    below *= 10;
                }
            }
            long a = above;
            long b = below;
            while (b != 0) {
                long rest = a % b;
                a = b;
                b = rest;
            }
            return part == 0 ? above / a : below / a;
        }

        int rule(int[] row, int p) {
            if (p == 0) {
                return 0;
            }
            int become = 4;
            for (int q : neighbours(p)) {
                become = Math.min(become, row[q] + 1);
            }
            return become;
        }

        int restless() {
            int bits = 0;
            for (int p = 0; p < n; p++) {
                bits += rule(distances, p) != distances[p] ? 1 << p : 0;
            }
            return bits;
        }

        int move(int p) {
            if (!known(p)) {
                return UNKNOWN;
            }
            if ((restless() >> p & 1) == 0) {
                return STATE;
            }
            distances[p] = rule(distances, p);
            return distances[p];
        }

        int mend() {
            int moves = 0;
            while (restless() != 0 && moves < 1000) {
                move(Integer.numberOfTrailingZeros(restless()));
                moves++;
            }
            return restless() != 0 ? NONE : moves;
        }

        List<int[]> nexts(int[] row) {
            List<int[]> list = new ArrayList<>();
            for (int p = 0; p < n; p++) {
                int[] next = row.clone();
                next[p] = rule(row, p);
                if (next[p] != row[p]) {
                    list.add(next);
                }
            }
            return list;
        }

        int longest() {
            if (n > 5 || ways >= 20) {
                return STATE;
            }
            ways++;
            return longestFrom(distances, new HashMap<>());
        }

        int longestFrom(int[] row, Map<String, Integer> known) {
            String key = Arrays.toString(row);
            if (known.containsKey(key)) {
                return known.get(key);
            }
            known.put(key, NONE);
            int most = 0;
            for (int[] next : nexts(row)) {
                int behind = longestFrom(next, known);
                if (behind == NONE) {
                    return NONE;
                }
                most = Math.max(most, behind + 1);
            }
            known.put(key, most);
            return most;
        }

        int shortest() {
            if (n > 5 || ways >= 20) {
                return STATE;
            }
            ways++;
            Map<String, Integer> moves = new HashMap<>();
            ArrayDeque<int[]> open = new ArrayDeque<>();
            open.add(distances.clone());
            moves.put(Arrays.toString(distances), 0);
            while (!open.isEmpty()) {
                int[] row = open.remove();
                int done = moves.get(Arrays.toString(row));
                if (nexts(row).isEmpty()) {
                    return done;
                }
                for (int[] next : nexts(row)) {
                    if (moves.putIfAbsent(Arrays.toString(next), done + 1) == null) {
                        open.add(next);
                    }
                }
            }
            return NONE;
        }

        int count(int what) {
            int lineCount = 0;
            int leaders = 0;
            for (int p = 0; p < n; p++) {
                leaders += marks[p] == 1 ? 1 : 0;
                for (int q = 0; q < p; q++) {
                    lineCount += lines[p][q] ? 1 : 0;
                }
            }
            int[] all = {n, lineCount, scheme, leaders, tries, ways};
            return what < 0 || what > 5 ? OUTSIDE : all[what];
        }

        long digest() {
            List<Integer> all = new ArrayList<>();
            all.add(n);
            for (int p = 0; p < n; p++) {
                all.addAll(List.of(marks[p], proof[p], distances[p]));
                for (int q = p + 1; q < n; q++) {
                    all.add(lines[p][q] ? 1 : 0);
                }
            }
            all.addAll(List.of(scheme, tries, ways));
            long h = 197;
            for (int number : all) {
                h = h * 31 + number;
            }
            return h;
        }
    }

    private static final int[] ODD = {-1, 5, 8, 9, 10, 11, 31, 32, 33, 63, 64, 65, Integer.MIN_VALUE, Integer.MAX_VALUE};

    private final Random random;
    private final PostProofs object = new PostProofs();
    private final Model model = new Model();
    private final List<String> calls = new ArrayList<>();
    private boolean wrong = false;

    private ModelTest(long seed) {
        random = new Random(seed);
    }

    /** Mostly a number below a bound, now and then one that is odd. */
    private int some(int bound) {
        return random.nextInt(25) == 0 ? ODD[random.nextInt(ODD.length)] : random.nextInt(bound);
    }

    private int somePost() {
        return some(model.n);
    }

    private int someBelow() {
        int most = 1;
        while (most < 64 && Math.pow(most + 1, model.n) <= 3000) {
            most++;
        }
        return random.nextInt(12) == 0 ? random.nextInt(14) : some(most) + 1;
    }

    private void due(String call, long got, long want) {
        calls.add(call + " = " + got);
        if (got != want) {
            wrong = true;
            System.out.println(String.join("; ", calls));
            System.out.println("the last one is wrong: due is " + want);
        }
    }

    private void build() {
        int n = 1 + random.nextInt(8);
        due("posts " + n, object.posts(n), model.posts(n));
        int tenths = random.nextInt(11);
        for (int p = 0; p < n; p++) {
            for (int q = 0; q < p; q++) {
                if (random.nextInt(10) < tenths) {
                    due("line " + p + " " + q, object.line(p, q, true), model.line(p, q, true));
                }
            }
        }
        for (int p = 0; p < n; p++) {
            int v = random.nextInt(4);
            due("mark " + p + " " + v, object.mark(p, v), model.put(model.marks, p, v, 3));
            int d = random.nextInt(5);
            due("distance " + p + " " + d, object.distance(p, d), model.put(model.distances, p, d, 4));
        }
    }

    private void setOne() {
        int p = somePost();
        int q = somePost();
        boolean is = random.nextBoolean();
        switch (random.nextInt(6)) {
            case 0:
                due("line " + p + " " + q + " " + is, object.line(p, q, is), model.line(p, q, is));
                break;
            case 1:
                int v = some(4);
                due("mark " + p + " " + v, object.mark(p, v), model.put(model.marks, p, v, 3));
                break;
            case 2:
                int k = some(5);
                due("scheme " + k, object.scheme(k), model.setScheme(k));
                break;
            case 3:
                int number = some(random.nextBoolean() ? 64 : 3);
                due("proof " + p + " " + number, object.proof(p, number), model.put(model.proof, p, number, 63));
                break;
            case 4:
                int d = some(5);
                due("distance " + p + " " + d, object.distance(p, d), model.put(model.distances, p, d, 4));
                break;
            default:
                if (random.nextInt(6) == 0) {
                    build();
                }
                int n = ODD[random.nextInt(ODD.length)];
                if (n != 5 && n != 8) {
                    due("posts " + n, object.posts(n), model.posts(n));
                }
        }
    }

    private void askOne() {
        int p = somePost();
        int q = somePost();
        switch (random.nextInt(18)) {
            case 0: due("holds", object.holds(), model.holds() ? 1 : 0); break;
            case 1: due("sets", object.sets(), model.sets()); break;
            case 2: due("far " + p + " " + q, object.far(p, q), model.far(p, q)); break;
            case 3: due("accepts " + p, object.accepts(p), model.acceptsOne(p)); break;
            case 4: due("against", object.against(), model.against(model.proof)); break;
            case 5: due("prove", object.prove(), model.prove()); break;
            case 6:
                int b = someBelow();
                due("tryAll " + b, object.tryAll(b), model.tryAll(b));
                break;
            case 7:
                int a = someBelow();
                int i = some(random.nextBoolean() ? 3 : 40);
                due("attempt " + a + " " + i, object.attempt(a, i), model.attempt(a, i));
                break;
            case 8: due("numbers", object.numbers(), model.numbers()); break;
            case 9:
                int t = some(11);
                int part = some(2);
                due("slip " + t + " " + part, object.slip(t, part), model.slip(t, part));
                break;
            case 10: due("restless", object.restless(), model.restless()); break;
            case 11: case 12: due("move " + p, object.move(p), model.move(p)); break;
            case 13:
                if (random.nextInt(3) == 0) {
                    due("mend", object.mend(), model.mend());
                }
                break;
            case 14: due("longest", object.longest(), model.longest()); break;
            case 15: due("shortest", object.shortest(), model.shortest()); break;
            case 16:
                int what = some(6);
                due("count " + what, object.count(what), model.count(what));
                break;
            default: due("digest", object.digest(), model.digest());
        }
    }

    private boolean run() {
        due("scheme", object.scheme(random.nextInt(5) == 0 ? 4 : 2), 0);
        model.scheme = object.count(2);
        build();
        while (calls.size() < CALLS && !wrong) {
            setOne();
            askOne();
        }
        due("digest", object.digest(), model.digest());
        return !wrong;
    }

    public static void main(String[] args) {
        int failed = 0;
        for (int seed = 0; seed < RUNS && failed < 3; seed++) {
            failed += new ModelTest(seed).run() ? 0 : 1;
        }
        System.out.println(failed == 0 ? RUNS + " runs are as due" : failed + " runs are not as due");
        if (failed != 0) {
            System.exit(1);
        }
    }
}
