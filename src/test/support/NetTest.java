/** What tests by hand share: nets to begin with, and the tally of answers that are not as due. */
abstract class NetTest {
    static final int NONE = -1, UNKNOWN = -101, OUTSIDE = -102, STATE = -103;

    /** The promise or the sentence of the document that is looked at. */
    static String about = "";
    private static int wrong = 0;

    static void due(String what, long got, long want) {
        if (got != want) {
            wrong++;
            System.out.println(about + ": " + what + " answered " + got + ", due is " + want);
        }
    }

    /** The last line of a test's main method. */
    static void end() {
        System.out.println(wrong == 0 ? "all answers are as due" : wrong + " answers are not as due");
        if (wrong != 0) {
            System.exit(1);
        }
    }

    /** A net with the lines given as pairs. */
    static PostProofs net(int n, int... ends) {
        PostProofs x = new PostProofs();
        x.posts(n);
        for (int i = 0; i + 1 < ends.length; i += 2) {
            x.line(ends[i], ends[i + 1], true);
        }
        return x;
    }

    static PostProofs path(int n) {
        PostProofs x = net(n);
        for (int p = 1; p < n; p++) {
            x.line(p - 1, p, true);
        }
        return x;
    }

    static PostProofs ring(int n) {
        PostProofs x = path(n);
        x.line(n - 1, 0, true);
        return x;
    }

    static PostProofs full(int n) {
        PostProofs x = net(n);
        for (int p = 0; p < n; p++) {
            for (int q = 0; q < p; q++) {
                x.line(p, q, true);
            }
        }
        return x;
    }

    /** The net whose lines are the bits of a number. */
    static PostProofs netOf(int n, int lines) {
        PostProofs x = net(n);
        int bit = 0;
        for (int p = 0; p < n; p++) {
            for (int q = 0; q < p; q++) {
                x.line(p, q, (lines >> bit & 1) == 1);
                bit++;
            }
        }
        return x;
    }

    static PostProofs with(PostProofs x, int scheme, int... marks) {
        x.scheme(scheme);
        for (int p = 0; p < marks.length; p++) {
            x.mark(p, marks[p]);
        }
        return x;
    }

    static void give(PostProofs x, int... numbers) {
        for (int p = 0; p < numbers.length; p++) {
            x.proof(p, numbers[p]);
        }
    }

    static void set(PostProofs x, int... distances) {
        for (int p = 0; p < distances.length; p++) {
            x.distance(p, distances[p]);
        }
    }

    static void dueProof(String what, PostProofs x, int... numbers) {
        for (int p = 0; p < numbers.length; p++) {
            due(what + ", number of " + p, x.proof(p, numbers[p]), numbers[p]);
        }
    }

    static void dueDistances(String what, PostProofs x, int... distances) {
        for (int p = 0; p < distances.length; p++) {
            due(what + ", distance of " + p, x.distance(p, distances[p]), distances[p]);
        }
    }

    static void dueAccepts(String what, PostProofs x, int p, int want) {
        due(what + ": accepts(" + p + ")", x.accepts(p), want);
    }

    static long digestOf(long... numbers) {
        long h = 197;
        for (long number : numbers) {
            h = 31 * h + number;
        }
        return h;
    }

    /** A net of four posts in which everything has been set. */
    static PostProofs busy() {
        PostProofs x = with(net(4, 0, 1, 1, 2, 0, 3), 1, 1, 0, 2, 3);
        give(x, 0, 1, 2, 63);
        set(x, 4, 3, 2, 1);
        x.tryAll(2);
        x.longest();
        return x;
    }
}
