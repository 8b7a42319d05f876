/** What the document says of all nets, on all small ones: claims by their own words, and where mending ends. */
public final class AllNetsTest extends NetTest {
    private static final int MOST_POSTS = 5;
    private static final int MOST_MARKED = 4;
    /** For n posts the greatest b that may be tried. */
    private static final int[] MOST_B = {0, 64, 64, 46, 17, 10};

    /** A net as the test itself sees it. */
    private static final class Told {
        final int n;
        final int lines;
        final int leaders;

        Told(int n, int lines, int leaders) {
            this.n = n;
            this.lines = lines;
            this.leaders = leaders;
        }

        /** The bit of a line in the number that netOf() takes. */
        static int bit(int a, int b) {
            int high = Math.max(a, b);
            return 1 << high * (high - 1) / 2 + Math.min(a, b);
        }

        boolean joined(int a, int b) {
            return a != b && (lines & bit(a, b)) != 0;
        }

        boolean leads(int p) {
            return (leaders >> p & 1) == 1;
        }

        /** How many lines lead from a to b at least, by some way of at most so many lines; n if none does. */
        int far(int a, int b, int most) {
            if (a == b) {
                return 0;
            }
            int least = n;
            for (int q = 0; q < n && most > 0; q++) {
                if (joined(a, q)) {
                    least = Math.min(least, 1 + far(q, b, most - 1));
                }
            }
            return least;
        }

        boolean together(int a, int b) {
            return far(a, b, n - 1) < n;
        }

        boolean coloursDo(int colours) {
            for (int code = 0; code < Math.pow(colours, n); code++) {
                if (unlike(code, colours)) {
                    return true;
                }
            }
            return false;
        }

        private boolean unlike(int code, int colours) {
            for (int a = 0; a < n; a++) {
                for (int b = 0; b < a; b++) {
                    if (joined(a, b) && digit(code, colours, a) == digit(code, colours, b)) {
                        return false;
                    }
                }
            }
            return true;
        }

        boolean leaderEach() {
            for (int p = 0; p < n; p++) {
                int count = 0;
                for (int q = 0; q < n; q++) {
                    count += leads(q) && together(p, q) ? 1 : 0;
                }
                if (count != 1) {
                    return false;
                }
            }
            return true;
        }

        boolean scattered() {
            for (int p = 0; p < n; p++) {
                int count = 0;
                for (int q = 0; q < n; q++) {
                    count += leads(q) && joined(p, q) ? 1 : 0;
                }
                if (leads(p) ? count > 0 : count == 0) {
                    return false;
                }
            }
            return true;
        }

        /** A line is on a ring, if its ends hang together without it too. */
        boolean noRings() {
            for (int a = 0; a < n; a++) {
                for (int b = 0; b < a; b++) {
                    if (joined(a, b) && new Told(n, lines & ~bit(a, b), leaders).together(a, b)) {
                        return false;
                    }
                }
            }
            return true;
        }

        boolean claim(int scheme) {
            switch (scheme) {
                case 0: return coloursDo(2);
                case 1: return coloursDo(3);
                case 2: return leaderEach();
                case 3: return scattered();
                default: return noRings();
            }
        }

        PostProofs made(int scheme) {
            PostProofs x = netOf(n, lines);
            x.scheme(scheme);
            for (int p = 0; p < n; p++) {
                x.mark(p, leads(p) ? 1 : 2 * (p % 2));
            }
            return x;
        }
    }

    private static int digit(int code, int base, int place) {
        return code / (int) Math.pow(base, place) % base;
    }

    private static int linesOf(int n) {
        return 1 << n * (n - 1) / 2;
    }

    private static void claims() {
        for (int n = 1; n <= MOST_POSTS; n++) {
            for (int lines = 0; lines < linesOf(n); lines++) {
                for (int scheme : new int[] {0, 1, 4}) {
                    dueClaim(new Told(n, lines, 0), scheme);
                }
                for (int leaders = 0; leaders < 1 << n && n <= MOST_MARKED; leaders++) {
                    dueClaim(new Told(n, lines, leaders), 2);
                    dueClaim(new Told(n, lines, leaders), 3);
                }
            }
        }
    }

    private static void dueClaim(Told told, int scheme) {
        about = "net " + told.n + "/" + told.lines + "/" + told.leaders + ", scheme " + scheme;
        boolean claim = told.claim(scheme);
        PostProofs x = told.made(scheme);
        due("holds()", x.holds(), claim ? 1 : 0);
        int numbers = x.numbers();
        due("prove()", x.prove(), claim ? 1 : 0);
        int greatest = 0;
        int[] proved = new int[told.n];
        for (int p = 0; p < told.n; p++) {
            proved[p] = x.proof(p, 63);
            greatest = Math.max(greatest, proved[p]);
        }
        due("numbers()", numbers, claim ? greatest + 1 : NONE);
        give(x, proved);
        if (claim) {
            due("against() of the prover's proof", x.against(), 0);
        }
        dueStands(x, scheme, claim, numbers, proved);
    }

    /** All say yes just when the net is as told, if the numbers are right: with no numbers where it is not. */
    private static void dueStands(PostProofs x, int scheme, boolean claim, int numbers, int[] proved) {
        int b = MOST_B[proved.length];
        int stand = x.tryAll(b);
        if (!claim || numbers <= b) {
            due("some proof's standing by " + b, stand > 0 ? 1 : 0, claim ? 1 : 0);
        }
        due("attempt(" + b + ", " + stand + ")", x.attempt(b, stand), NONE);
        dueProof("behind NONE", x, proved);
        if (stand > 0) {
            due("attempt(" + b + ", " + (stand - 1) + ")", x.attempt(b, stand - 1), 1);
            due("against() of the last one", x.against(), 0);
            due("attempt(" + b + ", 0)", x.attempt(b, 0), 1);
            due("against() of the first one", x.against(), 0);
        }
        if (stand > 0 && scheme <= 1) {
            dueProof("the first one is the prover's", x, proved);
        }
    }

    private static void ways() {
        for (int n = 1; n <= MOST_POSTS; n++) {
            for (int lines = 0; lines < linesOf(n); lines++) {
                Told told = new Told(n, lines, 0);
                about = "net " + n + "/" + lines;
                PostProofs x = told.made(0);
                int sets = 0;
                for (int a = 0; a < n; a++) {
                    boolean least = true;
                    for (int b = 0; b < n; b++) {
                        int far = told.far(a, b, n - 1);
                        due("far(" + a + ", " + b + ")", x.far(a, b), far < n ? far : NONE);
                        least &= b >= a || far == n;
                    }
                    sets += least ? 1 : 0;
                }
                due("sets()", x.sets(), sets);
            }
        }
    }

    /** Whatever the distances were, at rest each is how far post 0 is, 4 at most, by the least first or the last. */
    private static void rests() {
        for (int n = 1; n <= MOST_POSTS; n++) {
            int stride = n < MOST_POSTS ? 1 : 97;
            for (int lines = 0; lines < linesOf(n); lines++) {
                Told told = new Told(n, lines, 0);
                int[] rest = new int[n];
                for (int p = 0; p < n; p++) {
                    rest[p] = told.together(0, p) ? Math.min(told.far(0, p, n - 1), 4) : 4;
                }
                for (int state = 0; state < Math.pow(5, n); state += stride) {
                    dueRest(told, state, rest);
                }
            }
        }
    }

    private static void dueRest(Told told, int state, int[] rest) {
        about = "net " + told.n + "/" + told.lines + " from distances " + state;
        PostProofs x = told.made(0);
        spread(x, told.n, state);
        int longest = x.longest();
        int shortest = x.shortest();
        int moves = x.mend();
        due("mend() within its ways", shortest <= moves && moves <= longest ? 1 : 0, 1);
        due("restless() behind mend()", x.restless(), 0);
        dueDistances("behind mend()", x, rest);
        spread(x, told.n, state);
        moves = 0;
        while (x.restless() != 0 && moves <= longest) {
            x.move(31 - Integer.numberOfLeadingZeros(x.restless()));
            moves++;
        }
        due("the last first within its ways", shortest <= moves && moves <= longest ? 1 : 0, 1);
        dueDistances("behind the last first", x, rest);
    }

    private static void spread(PostProofs x, int n, int state) {
        for (int p = 0; p < n; p++) {
            x.distance(p, digit(state, 5, p));
        }
    }

    public static void main(String[] args) {
        claims();
        ways();
        rests();
        end();
    }
}
