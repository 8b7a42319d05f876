import java.math.BigInteger;

/** Each sentence of the document that names an edge, up to the edge; what lies beyond it is RefusalsTest's. */
public final class EdgesTest extends NetTest {
    private static final int MOST = Integer.MAX_VALUE;
    private static final int LEAST = Integer.MIN_VALUE;

    /** The sentence that the next answers are due by. */
    private static void says(int promise, String words) {
        about = "promise " + promise + ", '" + words + "'";
    }

    private static void dueCounts(PostProofs x, int... counts) {
        for (int what = 0; what < counts.length; what++) {
            due("count(" + what + ")", x.count(what), counts[what]);
        }
    }

    /** A net of posts in which each mark, number and distance is the greatest, and all lines are there. */
    private static PostProofs filled(int n) {
        PostProofs x = full(n);
        for (int p = 0; p < n; p++) {
            x.mark(p, 3);
            x.proof(p, 63);
            x.distance(p, 4);
        }
        return x;
    }

    // ---- the net

    private static void newObject() {
        says(1, "One POST; SCHEME 0.");
        PostProofs x = new PostProofs();
        dueCounts(x, 1, 0, 0, 0, 0, 0);
        due("the only post", x.accepts(0), 1);
        due("a second post", x.accepts(1), UNKNOWN);
        due("scheme(0)", x.scheme(0), 0);
        due("mark(0, 0)", x.mark(0, 0), 0);
        due("proof(0, 0)", x.proof(0, 0), 0);
        due("distance(0, 0)", x.distance(0, 0), 0);
        due("digest()", x.digest(), digestOf(1, 0, 0, 0, 0, 0, 0));
        says(1, "A new object (beside one that is in use)");
        PostProofs used = filled(8);
        used.scheme(4);
        used.tryAll(1);
        due("digest()", new PostProofs().digest(), digestOf(1, 0, 0, 0, 0, 0, 0));
        due("count(0) of the used one", used.count(0), 8);
    }

    private static void posts() {
        says(2, "n POSTS 0 to n less 1 (n 1 to 8)");
        for (int n = 1; n <= 8; n++) {
            PostProofs x = new PostProofs();
            due("posts(" + n + ")", x.posts(n), n);
            due("count(0)", x.count(0), n);
            for (int p = 0; p < n; p++) {
                due("far(" + p + ", " + p + ") of " + n, x.far(p, p), 0);
            }
            due("far(" + n + ", 0) of " + n, x.far(n, 0), UNKNOWN);
        }
        says(2, "no LINES, MARKS, PROOF, DISTANCES 0");
        for (int n = 1; n <= 8; n++) {
            PostProofs x = filled(n);
            due("posts(" + n + ") again", x.posts(n), n);
            due("digest()", x.digest(), net(n).digest());
            PostProofs y = filled(8);
            y.posts(n);
            due("digest() behind a greater net", y.digest(), net(n).digest());
            y.posts(8);
            due("digest() grown again", y.digest(), net(8).digest());
            due("against() grown again", y.against(), 0);
            due("restless() grown again", y.restless(), 254);
        }
        says(2, "(the SCHEME and what was done are not among it)");
        PostProofs x = busy();
        x.posts(1);
        dueCounts(x, 1, 0, 1, 0, 1, 1);
    }

    private static void line() {
        says(3, "A LINE between two POSTS is there, or not: 1 if it was, else 0.");
        PostProofs x = net(8);
        int lines = 0;
        for (int a = 0; a < 8; a++) {
            for (int b = 0; b < a; b++) {
                due("no line " + a + " " + b + " taken away", x.line(a, b, false), 0);
                due("line(" + a + ", " + b + ", true)", x.line(a, b, true), 0);
                due("line(" + b + ", " + a + ", true)", x.line(b, a, true), 1);
                lines++;
                due("count(1)", x.count(1), lines);
            }
        }
        due("count(1) of a full net", x.count(1), 28);
        for (int a = 0; a < 8; a++) {
            for (int b = 0; b < a; b++) {
                due("line(" + b + ", " + a + ", false)", x.line(b, a, false), 1);
                due("line(" + a + ", " + b + ", false)", x.line(a, b, false), 0);
            }
        }
        due("count(1) of an emptied net", x.count(1), 0);
        due("sets() of an emptied net", x.sets(), 8);
        says(3, "(of the least net with two POSTS)");
        PostProofs y = net(2);
        due("line(1, 0, true)", y.line(1, 0, true), 0);
        due("count(1)", y.count(1), 1);
        due("line(0, 1, false)", y.line(0, 1, false), 1);
        due("count(1)", y.count(1), 0);
    }

    private static void mark() {
        says(4, "a MARK of each POST (0 to 3; 0 at first)");
        for (int n : new int[] {1, 8}) {
            PostProofs x = net(n);
            for (int p : new int[] {0, n - 1}) {
                due("at first, " + p, x.mark(p, 0), 0);
                due("mark(" + p + ", 3)", x.mark(p, 3), 0);
                due("mark(" + p + ", 3)", x.mark(p, 3), 3);
                due("mark(" + p + ", 0)", x.mark(p, 0), 3);
                due("mark(" + p + ", 0)", x.mark(p, 0), 0);
            }
        }
    }

    private static void scheme() {
        says(5, "The SCHEME becomes k: what it was.");
        PostProofs x = new PostProofs();
        due("scheme(4)", x.scheme(4), 0);
        due("scheme(4)", x.scheme(4), 4);
        due("scheme(0)", x.scheme(0), 4);
        due("scheme(0)", x.scheme(0), 0);
    }

    private static void dueHolds(String what, PostProofs x, int... wants) {
        for (int k = 0; k < wants.length; k++) {
            x.scheme(k);
            due(what + ", scheme " + k, x.holds(), wants[k]);
        }
    }

    private static void holds() {
        says(6, "Whether the CLAIM holds (one POST, no LINES)");
        dueHolds("one post", net(1), 1, 1, 0, 0, 1);
        dueHolds("one post with mark 1", with(net(1), 0, 1), 1, 1, 1, 1, 1);
        dueHolds("eight posts", net(8), 1, 1, 0, 0, 1);
        dueHolds("eight with mark 1", with(net(8), 0, 1, 1, 1, 1, 1, 1, 1, 1), 1, 1, 1, 1, 1);
        dueHolds("all but the last with mark 1", with(net(8), 0, 1, 1, 1, 1, 1, 1, 1, 0), 1, 1, 0, 0, 1);
        dueHolds("all but the first with mark 1", with(net(8), 0, 2, 1, 1, 1, 1, 1, 1, 1), 1, 1, 0, 0, 1);
        says(6, "Whether the CLAIM holds (all LINES)");
        dueHolds("full net", full(8), 0, 0, 0, 0, 0);
        dueHolds("full net, mark 1 at the last", with(full(8), 0, 0, 0, 0, 0, 0, 0, 0, 1), 0, 0, 1, 1, 0);
        dueHolds("full net, two marks 1", with(full(8), 0, 1, 0, 0, 0, 0, 0, 0, 1), 0, 0, 0, 0, 0);
        says(6, "just one has MARK 1, in each such set");
        dueHolds("none in the longest path", with(path(8), 0, 0, 2, 3, 0, 2, 3, 0, 2), 1, 1, 0, 0, 1);
        dueHolds("one at its end", with(path(8), 0, 0, 0, 0, 0, 0, 0, 0, 1), 1, 1, 1, 0, 1);
        dueHolds("both its ends", with(path(8), 0, 1, 0, 0, 0, 0, 0, 0, 1), 1, 1, 0, 0, 1);
        says(6, "no two NEIGHBOURS have MARK 1, and each POST without MARK 1 has a NEIGHBOUR with it");
        dueHolds("a pair, none", with(path(2), 0, 0, 0), 1, 1, 0, 0, 1);
        dueHolds("a pair, one", with(path(2), 0, 0, 1), 1, 1, 1, 1, 1);
        dueHolds("a pair, both", with(path(2), 0, 1, 1), 1, 1, 0, 0, 1);
        dueHolds("every second of a ring", with(ring(8), 0, 1, 0, 1, 0, 1, 0, 1, 0), 1, 1, 0, 1, 0);
        dueHolds("every third of a path", with(path(8), 0, 0, 1, 0, 0, 1, 0, 0, 1), 1, 1, 0, 1, 1);
        dueHolds("one too far", with(path(8), 0, 1, 0, 0, 0, 1, 0, 0, 1), 1, 1, 0, 0, 1);
        says(6, "there is no ring of LINES");
        dueHolds("the least ring", ring(3), 0, 1, 0, 0, 0);
        dueHolds("the greatest ring", ring(8), 1, 1, 0, 0, 0);
        dueHolds("the greatest odd ring", ring(7), 0, 1, 0, 0, 0);
        dueHolds("a ring at the last posts", net(8, 5, 6, 6, 7, 7, 5), 0, 1, 0, 0, 0);
        dueHolds("the least net that three colours do not do for", full(4), 0, 0, 0, 0, 0);
    }

    private static void sets() {
        says(7, "How many sets of POSTS that hang together there are.");
        due("one post", new PostProofs().sets(), 1);
        due("no lines", net(8).sets(), 8);
        due("one line between the ends", net(8, 0, 7).sets(), 7);
        due("all lines", full(8).sets(), 1);
        due("the longest path", path(8).sets(), 1);
        PostProofs x = path(8);
        x.line(6, 7, false);
        due("the last one apart", x.sets(), 2);
        x.line(0, 1, false);
        due("the first one apart too", x.sets(), 3);
        due("all but the first", net(8, 1, 2, 2, 3, 3, 4, 4, 5, 5, 6, 6, 7, 7, 1).sets(), 2);
    }

    private static void far() {
        says(8, "How many LINES two POSTS are away from one another at least");
        due("one post", new PostProofs().far(0, 0), 0);
        due("a post itself, without lines", net(8).far(7, 7), 0);
        due("a post itself, with all lines", full(8).far(7, 7), 0);
        due("with all lines", full(8).far(0, 7), 1);
        due("the ends of the longest path", path(8).far(0, 7), 7);
        due("and back", path(8).far(7, 0), 7);
        due("half of the greatest ring", ring(8).far(0, 4), 4);
        due("the other way about it", ring(8).far(0, 5), 3);
        due("by the first of two ways", net(4, 0, 1, 0, 2, 1, 3).far(0, 3), 2);
        due("by the last of two ways", net(4, 0, 1, 0, 2, 2, 3).far(0, 3), 2);
        says(8, "NONE: they do not hang together.");
        due("no lines", net(2).far(0, 1), NONE);
        due("the last one apart", net(8, 0, 1, 1, 2, 2, 3, 3, 4, 4, 5, 5, 6).far(0, 7), NONE);
        due("the last one from there", net(8, 0, 1, 1, 2, 2, 3, 3, 4, 4, 5, 5, 6).far(7, 0), NONE);
        PostProofs x = path(2);
        x.line(1, 0, false);
        due("a line that is gone", x.far(0, 1), NONE);
    }

    // ---- proofs

    private static void proof() {
        says(9, "A PROOF gives each POST a number 0 to 63 (0 at first).");
        for (int n : new int[] {1, 8}) {
            PostProofs x = net(n);
            for (int p : new int[] {0, n - 1}) {
                due("at first, " + p, x.proof(p, 0), 0);
                due("proof(" + p + ", 63)", x.proof(p, 63), 0);
                due("proof(" + p + ", 63)", x.proof(p, 63), 63);
                due("proof(" + p + ", 0)", x.proof(p, 0), 63);
                due("proof(" + p + ", 0)", x.proof(p, 0), 0);
            }
        }
    }

    private static void acceptsColours() {
        says(10, "its number is 0 or 1, and unlike that of each NEIGHBOUR");
        PostProofs x = net(2);
        due("no neighbours, 1", pairAccepts(x, 0, 1, 1), 1);
        due("no neighbours, 2", pairAccepts(x, 0, 2, 0), 0);
        x.line(0, 1, true);
        due("1 beside 0", pairAccepts(x, 0, 1, 0), 1);
        due("0 beside 63", pairAccepts(x, 0, 0, 63), 1);
        due("1 beside 1", pairAccepts(x, 0, 1, 1), 0);
        due("2 beside 0", pairAccepts(x, 0, 2, 0), 0);
        says(10, "likewise, 0 to 2");
        due("2 beside 0", pairAccepts(x, 1, 2, 0), 1);
        due("2 beside 3", pairAccepts(x, 1, 2, 3), 1);
        due("2 beside 2", pairAccepts(x, 1, 2, 2), 0);
        due("3 beside 0", pairAccepts(x, 1, 3, 0), 0);
        due("63 beside 0", pairAccepts(x, 1, 63, 0), 0);
        says(10, "unlike that of each NEIGHBOUR (as many as can be)");
        PostProofs y = full(8);
        give(y, 0, 1, 1, 1, 1, 1, 1, 1);
        dueAccepts("all seven unlike", y, 0, 1);
        y.proof(7, 0);
        dueAccepts("only the last alike", y, 0, 0);
        y.line(0, 7, false);
        dueAccepts("alike, but no neighbour", y, 0, 1);
    }

    /** Whether post 0 of two accepts, where the two have these numbers. */
    private static int pairAccepts(PostProofs pair, int scheme, int own, int other) {
        pair.scheme(scheme);
        give(pair, own, other);
        return pair.accepts(0);
    }

    private static void acceptsLeaders() {
        says(10, "its number is 8 r and d, r below 8, d below 8");
        PostProofs x = with(path(8), 2, 0, 0, 0, 0, 0, 0, 0, 1);
        give(x, 63, 62, 61, 60, 59, 58, 57, 56);
        due("r 7, d 7 to 0", x.against(), 0);
        PostProofs y = with(path(8), 2, 1);
        give(y, 0, 1, 2, 3, 4, 5, 6, 7);
        due("r 0, d 0 to 7", y.against(), 0);
        PostProofs z = with(path(2), 2);
        give(z, 63, 62);
        dueAccepts("an r that names no post, d not 0", z, 0, 1);
        says(10, "all NEIGHBOURS have the same r");
        give(z, 8, 7);
        dueAccepts("8 beside 7", with(z, 2, 1, 0), 0, 0);
        give(z, 9, 0);
        dueAccepts("r 1, d 1 beside r 0, d 0", with(z, 2, 0, 1), 0, 0);
        PostProofs star = with(full(8), 2, 1);
        give(star, 0, 1, 1, 1, 1, 1, 1, 1);
        dueAccepts("all seven the same", star, 0, 1);
        star.proof(7, 9);
        dueAccepts("only the last another", star, 0, 0);
        PostProofs turned = with(full(8), 2, 0, 0, 0, 0, 0, 0, 0, 1);
        give(turned, 57, 57, 57, 57, 57, 57, 57, 56);
        dueAccepts("all seven the same", turned, 7, 1);
        turned.proof(0, 49);
        dueAccepts("only the first another", turned, 7, 0);
        says(10, "if d is 0, p is r and its MARK is 1");
        int[] numbers = {0, 8, 56, 48};
        int[][] wants = {{1, 0, 0, 0}, {0, 0, 1, 0}};
        for (int i = 0; i < numbers.length; i++) {
            for (int p : new int[] {0, 7}) {
                PostProofs alone = with(net(8), 2, 1, 0, 0, 0, 0, 0, 0, 1);
                alone.proof(p, numbers[i]);
                dueAccepts("number " + numbers[i], alone, p, wants[p / 7][i]);
                alone.mark(p, 0);
                dueAccepts("number " + numbers[i] + " without mark", alone, p, 0);
                alone.mark(p, 2);
                dueAccepts("number " + numbers[i] + " with mark 2", alone, p, 0);
            }
        }
        says(10, "else its MARK is not 1, and some NEIGHBOUR has d less 1");
        dueFollows("no neighbours, d 1", with(net(2), 2, 0, 1), 1, 0, 0);
        dueFollows("d 1 beside d 0", with(path(2), 2, 0, 0), 1, 0, 1);
        dueFollows("d 1 beside d 0, with mark 1", with(path(2), 2, 1, 0), 1, 0, 0);
        dueFollows("d 7 beside d 6, with mark 3", with(path(2), 2, 3, 0), 7, 6, 1);
        dueFollows("d 7 beside d 7", with(path(2), 2, 0, 0), 7, 7, 0);
        dueFollows("d 6 beside d 7", with(path(2), 2, 0, 0), 6, 7, 0);
        dueFollows("d 2 beside d 0", with(path(2), 2, 0, 0), 2, 0, 0);
    }

    private static void dueFollows(String what, PostProofs pair, int own, int other, int want) {
        give(pair, own, other);
        dueAccepts(what, pair, 0, want);
    }

    private static void acceptsScattered() {
        says(10, "just that, as far as p sees it (its number is 0)");
        PostProofs x = with(net(8), 3, 0, 0, 0, 0, 0, 0, 0, 1);
        dueAccepts("alone with mark 1", x, 7, 1);
        dueAccepts("alone without", x, 0, 0);
        x.line(0, 7, true);
        dueAccepts("beside mark 1", x, 0, 1);
        x.mark(0, 1);
        dueAccepts("both with mark 1", x, 0, 0);
        dueAccepts("both with mark 1", x, 7, 0);
        x.mark(0, 3);
        x.proof(0, 1);
        dueAccepts("number 1", x, 0, 0);
        x.proof(0, 63);
        dueAccepts("number 63", x, 0, 0);
        dueAccepts("its neighbour", x, 7, 1);
        PostProofs y = with(full(8), 3, 0, 1, 1, 1, 1, 1, 1, 1);
        dueAccepts("all seven neighbours with mark 1", y, 0, 1);
        dueAccepts("one of them", y, 1, 0);
    }

    private static void acceptsNoRings() {
        says(10, "its number is 0 to 7");
        PostProofs x = with(path(2), 4);
        due("7 beside 6", pairAccepts(x, 4, 7, 6), 1);
        due("8 beside 7", pairAccepts(x, 4, 8, 7), 0);
        due("63 beside 62", pairAccepts(x, 4, 63, 62), 0);
        says(10, "if it is 0, all NEIGHBOURS have 1");
        due("0 beside 1", pairAccepts(x, 4, 0, 1), 1);
        due("0 beside 0", pairAccepts(x, 4, 0, 0), 0);
        due("0 beside 2", pairAccepts(x, 4, 0, 2), 0);
        due("0 beside 63", pairAccepts(x, 4, 0, 63), 0);
        dueAccepts("0 without neighbours", with(net(8), 4), 7, 1);
        PostProofs star = full(8);
        star.scheme(4);
        give(star, 0, 1, 1, 1, 1, 1, 1, 1);
        dueAccepts("all seven have 1", star, 0, 1);
        star.proof(7, 2);
        dueAccepts("all but the last have 1", star, 0, 0);
        says(10, "else just one NEIGHBOUR has one less, and all others one more");
        due("1 beside 0", pairAccepts(x, 4, 1, 0), 1);
        due("1 beside 2", pairAccepts(x, 4, 1, 2), 0);
        due("1 beside 1", pairAccepts(x, 4, 1, 1), 0);
        PostProofs alone = with(net(1), 4);
        alone.proof(0, 1);
        dueAccepts("1 without neighbours", alone, 0, 0);
        alone.proof(0, 7);
        dueAccepts("7 without neighbours", alone, 0, 0);
        give(star, 7, 8, 8, 8, 8, 8, 8, 6);
        dueAccepts("7, one 6, all others 8", star, 0, 1);
        star.proof(1, 6);
        dueAccepts("7, two 6", star, 0, 0);
        give(star, 7, 8, 8, 8, 8, 8, 8, 8);
        dueAccepts("7, no 6", star, 0, 0);
        give(star, 7, 8, 8, 8, 9, 8, 8, 6);
        dueAccepts("7, one 9", star, 0, 0);
    }

    private static void against() {
        says(11, "POSTS that do not ACCEPT, as bits.");
        PostProofs one = new PostProofs();
        due("one post, it accepts", one.against(), 0);
        one.proof(0, 2);
        due("one post, it does not", one.against(), 1);
        PostProofs x = net(8);
        due("none", x.against(), 0);
        x.proof(7, 2);
        due("only the last", x.against(), 128);
        x.proof(0, 63);
        due("the first and the last", x.against(), 129);
        give(x, 2, 2, 2, 2, 2, 2, 2, 2);
        due("all", x.against(), 255);
        due("all of a full net", full(8).against(), 255);
    }

    private static void prove() {
        says(12, "of SCHEMES 0, 1 of all that STAND the first one");
        dueProves("one post", net(1), 0, 0);
        dueProves("no lines", net(8), 1, 0, 0, 0, 0, 0, 0, 0, 0);
        dueProves("the greatest ring", ring(8), 0, 0, 1, 0, 1, 0, 1, 0, 1);
        dueProves("the greatest odd ring", ring(7), 1, 0, 1, 0, 1, 0, 1, 2);
        dueProves("three posts, all lines", full(3), 1, 0, 1, 2);
        says(12, "r the one with MARK 1 that hangs together with it, d how many LINES it is away from that at least");
        dueProves("one post", with(net(1), 2, 1), 2, 0);
        dueProves("the last one alone", with(net(8), 2, 1, 1, 1, 1, 1, 1, 1, 1), 2, 0, 8, 16, 24, 32, 40, 48, 56);
        dueProves("the farthest", with(path(8), 2, 0, 0, 0, 0, 0, 0, 0, 1), 2, 63, 62, 61, 60, 59, 58, 57, 56);
        dueProves("the nearest", with(full(8), 2, 0, 0, 0, 0, 0, 0, 0, 1), 2, 57, 57, 57, 57, 57, 57, 57, 56);
        says(12, "of 3: all 0");
        dueProves("one post", with(net(1), 3, 1), 3, 0);
        dueProves("a full net", with(full(8), 3, 1), 3, 0, 0, 0, 0, 0, 0, 0, 0);
        PostProofs twice = with(path(3), 4, 0, 1, 0);
        dueProves("a path, by another scheme", twice, 4, 0, 1, 2);
        dueProves("a path, behind that", twice, 3, 0, 0, 0);
        says(12, "of 4: how many LINES it is away from the least POST that hangs together with it");
        dueProves("one post", net(1), 4, 0);
        dueProves("no lines", net(8), 4, 0, 0, 0, 0, 0, 0, 0, 0);
        dueProves("the farthest", path(8), 4, 0, 1, 2, 3, 4, 5, 6, 7);
        dueProves("two sets", net(8, 0, 7, 7, 5, 6, 1, 1, 4), 4, 0, 0, 0, 0, 1, 2, 1, 1);
        says(12, "0: the CLAIM does not hold (nothing is changed).");
        PostProofs[] nets = {full(8), full(8), with(full(8), 2, 1, 1), with(full(8), 3, 2), full(8)};
        for (int k = 0; k < nets.length; k++) {
            nets[k].scheme(k);
            give(nets[k], 63, 1, 2, 3, 4, 5, 6, 7);
            long before = nets[k].digest();
            due("prove(), scheme " + k, nets[k].prove(), 0);
            due("digest(), scheme " + k, nets[k].digest(), before);
        }
    }

    private static void dueProves(String what, PostProofs x, int scheme, int... numbers) {
        x.scheme(scheme);
        for (int p = 0; p < numbers.length; p++) {
            x.proof(p, 63 - p);
        }
        due(what + ": prove()", x.prove(), 1);
        dueProof(what, x, numbers);
        due(what + ": against()", x.against(), 0);
        due(what + ": count(4)", x.count(4), 0);
    }

    private static void tryAll() {
        says(13, "TRYING by B (1 to 64): all PROOFS with numbers below B");
        int[][] wants = {{1, 2, 2}, {1, 2, 3}, {1, 1, 1}, {1, 1, 1}, {1, 1, 1}};
        for (int k = 0; k < 5; k++) {
            PostProofs one = with(net(1), k, 1);
            due("one post by 1, scheme " + k, one.tryAll(1), wants[k][0]);
            due("one post by 2, scheme " + k, one.tryAll(2), wants[k][1]);
            due("one post by 64, scheme " + k, one.tryAll(64), wants[k][2]);
        }
        due("eight posts by 1, no lines", net(8).tryAll(1), 1);
        due("eight posts by 1, a path", path(8).tryAll(1), 0);
        due("a pair by 8", with(path(2), 2, 0, 1).tryAll(8), 0);
        due("a pair by 9", with(path(2), 2, 0, 1).tryAll(9), 0);
        due("a pair by 10", with(path(2), 2, 0, 1).tryAll(10), 1);
        due("a pair by 64", with(path(2), 2, 0, 1).tryAll(64), 1);
        due("a pair by 7, no rings", with(path(2), 4).tryAll(7), 2);
        says(13, "only where B to the n is 100000 at most");
        due("just 100000", with(net(5), 1).tryAll(10), 243);
        due("the most of eight posts", with(net(8), 1).tryAll(4), 6561);
        due("the most of three posts", with(net(3), 0).tryAll(46), 8);
        says(13, "how many STAND (the PROOF is not changed)");
        PostProofs x = net(2);
        give(x, 63, 62);
        due("tryAll(64)", x.tryAll(64), 4);
        dueProof("behind tryAll()", x, 63, 62);
        says(13, "(it was not yet done) 30 times with attempt()");
        dueTries("all by tryAll()", 30, 30);
        dueTries("all by attempt()", 0, 30);
        dueTries("the last one by tryAll()", 29, 30);
        dueTries("the last one by attempt()", 1, 30);
    }

    /** Does as many tries as may be, so many of them by tryAll(); all of them answer. */
    private static void dueTries(String what, int byTryAll, int all) {
        PostProofs x = path(2);
        for (int done = 0; done < all - byTryAll; done++) {
            due(what + ": attempt(2, 1)", x.attempt(2, 1), 1);
        }
        for (int done = 0; done < byTryAll; done++) {
            due(what + ": tryAll(2)", x.tryAll(2), 2);
        }
        due(what + ": count(4)", x.count(4), all);
    }

    private static void attempt() {
        says(14, "The PROOF becomes the i-th (from 0) of those by B that STAND");
        PostProofs x = with(net(5), 1);
        due("attempt(10, 0)", x.attempt(10, 0), 1);
        dueProof("the first", x, 0, 0, 0, 0, 0);
        due("attempt(10, 1)", x.attempt(10, 1), 1);
        dueProof("the second", x, 0, 0, 0, 0, 1);
        due("attempt(10, 242)", x.attempt(10, 242), 1);
        dueProof("the last", x, 2, 2, 2, 2, 2);
        due("attempt(2, 31)", x.attempt(2, 31), 1);
        dueProof("the last by 2", x, 1, 1, 1, 1, 1);
        due("attempt(1, 0)", x.attempt(1, 0), 1);
        dueProof("the only one by 1", x, 0, 0, 0, 0, 0);
        says(14, "NONE: there is none.");
        give(x, 63, 62, 61, 60, 59);
        due("attempt(10, 243)", x.attempt(10, 243), NONE);
        due("attempt(1, 1)", x.attempt(1, 1), NONE);
        due("attempt(2, 32)", x.attempt(2, 32), NONE);
        due("attempt(10, MOST)", x.attempt(10, MOST), NONE);
        due("attempt(10, -1)", x.attempt(10, -1), NONE);
        due("attempt(10, LEAST)", x.attempt(10, LEAST), NONE);
        dueProof("behind NONE", x, 63, 62, 61, 60, 59);
        due("none stands", with(full(8), 1).attempt(4, 0), NONE);
        due("none stands by 1", path(2).attempt(1, 0), NONE);
        says(14, "(NONE is an answer: it counts as done)");
        due("count(4)", x.count(4), 11);
        PostProofs y = net(1);
        for (int done = 0; done < 30; done++) {
            due("attempt(64, 2)", y.attempt(64, 2), NONE);
        }
        due("count(4)", y.count(4), 30);
        due("attempt(64, 2)", y.attempt(64, 2), STATE);
    }

    private static void numbers() {
        says(15, "The greatest number that THE PROVER's PROOF has, and 1");
        due("one post", net(1).numbers(), 1);
        due("the most of two colours", ring(8).numbers(), 2);
        due("the most of three colours", with(full(3), 1).numbers(), 3);
        due("the least of a leader each", with(net(1), 2, 1).numbers(), 1);
        due("the most of a leader each", with(path(8), 2, 0, 0, 0, 0, 0, 0, 0, 1).numbers(), 64);
        due("scattered", with(full(8), 3, 1).numbers(), 1);
        due("the least of no rings", with(net(8), 4).numbers(), 1);
        due("the most of no rings", with(path(8), 4).numbers(), 8);
        says(15, "NONE: the CLAIM does not hold.");
        for (int k = 0; k < 5; k++) {
            due("a full net, scheme " + k, with(full(8), k).numbers(), NONE);
        }
        says(15, "(it is no trying)");
        PostProofs x = path(8);
        dueTriesUsed(x);
        due("numbers()", x.numbers(), 2);
        due("holds()", x.holds(), 1);
        due("prove()", x.prove(), 1);
        due("count(4)", x.count(4), 30);
    }

    private static void dueTriesUsed(PostProofs x) {
        for (int done = 0; done < 30; done++) {
            x.tryAll(1);
        }
        due("tryAll(1)", x.tryAll(1), STATE);
    }

    private static void dueSlip(String what, PostProofs x, int t, long above, long below) {
        due(what + ": slip(" + t + ", 0)", x.slip(t, 0), above);
        due(what + ": slip(" + t + ", 1)", x.slip(t, 1), below);
    }

    private static void slip() {
        says(16, "each POST looks with t chances in ten (t 0 to 10)");
        PostProofs all = full(8);
        dueSlip("all against", all, 0, 1, 1);
        dueSlip("all against", all, 1, 43046721, 100000000);
        dueSlip("all against", all, 5, 1, 256);
        dueSlip("all against", all, 9, 1, 100000000);
        says(16, "0 by 1 where some one that does not ACCEPT always looks");
        dueSlip("all against", all, 10, 0, 1);
        PostProofs one = new PostProofs();
        one.proof(0, 2);
        dueSlip("the only post against", one, 10, 0, 1);
        PostProofs last = net(8);
        last.proof(7, 63);
        dueSlip("the last post against", last, 10, 0, 1);
        dueSlip("the last post against", last, 0, 1, 1);
        dueSlip("the last post against", last, 8, 1, 5);
        says(16, "A SLIP is that no POST that does not ACCEPT looks (where all ACCEPT)");
        for (int t = 0; t <= 10; t++) {
            dueSlip("none against", net(8), t, 1, 1);
            dueSlip("one post, not against", new PostProofs(), t, 1, 1);
        }
    }

    // ---- mending

    private static void distance() {
        says(17, "each POST has a DISTANCE 0 to 4 (0 at first)");
        for (int n : new int[] {1, 8}) {
            PostProofs x = net(n);
            for (int p : new int[] {0, n - 1}) {
                due("at first, " + p, x.distance(p, 0), 0);
                due("distance(" + p + ", 4)", x.distance(p, 4), 0);
                due("distance(" + p + ", 4)", x.distance(p, 4), 4);
                due("distance(" + p + ", 0)", x.distance(p, 0), 4);
                due("distance(" + p + ", 0)", x.distance(p, 0), 0);
            }
        }
    }

    private static void restless() {
        says(18, "POST 0's RULE: it becomes 0");
        PostProofs one = new PostProofs();
        for (int v = 0; v <= 4; v++) {
            one.distance(0, v);
            due("one post at " + v, one.restless(), v == 0 ? 0 : 1);
        }
        PostProofs star = full(8);
        set(star, 0, 1, 1, 1, 1, 1, 1, 1);
        due("whatever its neighbours have", star.restless(), 0);
        says(18, "another one's: 1 more than the least of its NEIGHBOURS', 4 at most");
        PostProofs pair = net(3, 1, 2);
        int[] wants = {1, 2, 3, 4, 4};
        for (int other = 0; other <= 4; other++) {
            for (int own = 0; own <= 4; own++) {
                set(pair, 0, own, other);
                due(own + " beside " + other, pair.restless() & 2, own == wants[other] ? 0 : 2);
            }
        }
        set(star, 0, 1, 4, 4, 4, 4, 4, 4);
        due("the least of all, at the first", star.restless(), 252);
        set(star, 4, 4, 4, 4, 4, 4, 1, 0);
        due("the least of all, at the last", star.restless(), 191);
        says(18, "(4 without any)");
        PostProofs x = net(8);
        set(x, 0, 4, 3, 2, 1, 0, 4, 4);
        due("restless()", x.restless(), 4 + 8 + 16 + 32);
        says(18, "POSTS that are RESTLESS, as bits.");
        due("none, one post", new PostProofs().restless(), 0);
        due("all but the first", net(8).restless(), 254);
        PostProofs y = net(8);
        y.distance(0, 1);
        due("all", y.restless(), 255);
        set(y, 0, 4, 4, 4, 4, 4, 4, 3);
        due("only the last", y.restless(), 128);
        y.distance(7, 4);
        due("none", y.restless(), 0);
    }

    private static void move() {
        says(19, "A MOVE of a POST: its DISTANCE then.");
        PostProofs x = net(8, 6, 7);
        set(x, 4, 0, 0, 0, 0, 0, 3, 0);
        due("move(0)", x.move(0), 0);
        due("move(5), without neighbours", x.move(5), 4);
        due("move(7), one above 3", x.move(7), 4);
        due("move(6), 4 at most", x.move(6), 4);
        dueDistances("behind them", x, 0, 0, 0, 0, 0, 4, 4, 4);
        x.distance(6, 0);
        due("move(7), one above 0", x.move(7), 1);
        PostProofs one = new PostProofs();
        one.distance(0, 1);
        due("move(0) of one post", one.move(0), 0);
    }

    private static void mend() {
        says(20, "until none is RESTLESS: how many MOVES");
        PostProofs one = new PostProofs();
        due("one post at rest", one.mend(), 0);
        one.distance(0, 4);
        due("one post", one.mend(), 1);
        due("one post, mended", one.mend(), 0);
        PostProofs x = net(8);
        x.distance(0, 4);
        due("eight posts apart", x.mend(), 8);
        dueDistances("eight posts apart", x, 0, 4, 4, 4, 4, 4, 4, 4);
        PostProofs y = full(8);
        set(y, 4, 4, 4, 4, 4, 4, 4, 4);
        due("a full net", y.mend(), 8);
        dueDistances("a full net", y, 0, 1, 1, 1, 1, 1, 1, 1);
        says(20, "NONE: one is still, behind 1000 (a net that takes long is not near that)");
        PostProofs slow = net(8, 1, 2, 1, 3, 2, 3, 1, 4, 2, 4, 3, 4, 4, 5, 1, 6, 2, 6, 3, 6, 4, 6, 5, 6, 6, 7);
        set(slow, 3, 3, 0, 0, 3, 0, 4, 0);
        due("mend() of a slow net", slow.mend(), 42);
        dueDistances("a slow net", slow, 0, 4, 4, 4, 4, 4, 4, 4);
    }

    private static void ways() {
        says(21, "THE LONGEST WAY from DISTANCES as they are (n 1 to 5)");
        for (int n = 1; n <= 5; n++) {
            PostProofs x = net(n);
            x.distance(0, 4);
            due("longest() of " + n + " apart", x.longest(), n);
            due("shortest() of " + n + " apart", x.shortest(), n);
            x.mend();
            due("longest() of " + n + " at rest", x.longest(), 0);
            due("shortest() of " + n + " at rest", x.shortest(), 0);
        }
        PostProofs most = path(5);
        set(most, 4, 4, 4, 4, 4);
        due("shortest() of the longest path", most.shortest(), 4);
        dueDistances("behind it", most, 4, 4, 4, 4, 4);
        says(21, "NONE: there could be MOVES without end (no net of up to four POSTS has them)");
        for (int n = 1; n <= 4; n++) {
            for (int lines = 0; lines < 1 << n * (n - 1) / 2; lines++) {
                dueBetween(n, lines);
            }
        }
        says(22, "THE SHORTEST WAY; (it was not yet done) 20 times with longest()");
        dueWays("all by longest()", 20, 20);
        dueWays("all by shortest()", 0, 20);
        dueWays("the last one by longest()", 19, 20);
        dueWays("the last one by shortest()", 1, 20);
    }

    /** From all distances, the least restless first takes no fewer moves than at least, no more than at most. */
    private static void dueBetween(int n, int lines) {
        int states = (int) Math.pow(5, n);
        PostProofs x = new PostProofs();
        for (int state = 0; state < states; state++) {
            if (state % 20 == 0) {
                x = netOf(n, lines);
            }
            int rest = state;
            for (int p = 0; p < n; p++) {
                x.distance(p, rest % 5);
                rest /= 5;
            }
            int way = state % 2 == 0 ? x.longest() : x.shortest();
            boolean stirs = x.restless() != 0;
            int least = x.mend();
            String what = "net " + n + "/" + lines + "/" + state + ": mend() " + least + " beside " + way;
            due(what, state % 2 == 0 ? Integer.compare(least, way + 1) : Integer.compare(way, least + 1), -1);
            due(what + ", some", Math.min(way, least) > 0 ? 1 : 0, stirs ? 1 : 0);
            due(what + ", restless()", x.restless(), 0);
        }
    }

    private static void dueWays(String what, int byLongest, int all) {
        PostProofs x = path(3);
        for (int done = 0; done < all - byLongest; done++) {
            due(what + ": shortest()", x.shortest(), 2);
        }
        for (int done = 0; done < byLongest; done++) {
            due(what + ": longest()", x.longest(), 3);
        }
        due(what + ": count(5)", x.count(5), all);
    }

    // ---- what is told

    private static void count() {
        says(23, "How many: 0 POSTS, 1 LINES, 2 the SCHEME, 3 POSTS with MARK 1, 4 .. 5 .. were done.");
        dueCounts(new PostProofs(), 1, 0, 0, 0, 0, 0);
        PostProofs x = with(full(8), 4, 1, 1, 1, 1, 1, 1, 1, 1);
        dueCounts(x, 8, 28, 4, 8, 0, 0);
        with(x, 3, 0, 2, 3, 0, 2, 3, 0, 2);
        dueCounts(x, 8, 28, 3, 0, 0, 0);
        dueTriesUsed(x);
        x.posts(5);
        for (int done = 0; done < 20; done++) {
            x.longest();
        }
        dueCounts(x, 5, 0, 3, 0, 30, 20);
        says(23, "(telling changes nothing)");
        long before = x.digest();
        dueCounts(x, 5, 0, 3, 0, 30, 20);
        due("digest()", x.digest(), before);
    }

    private static long wrapped(int... numbers) {
        BigInteger h = BigInteger.valueOf(197);
        for (int number : numbers) {
            h = h.multiply(BigInteger.valueOf(31)).add(BigInteger.valueOf(number));
        }
        return h.longValue();
    }

    private static void digest() {
        says(24, "31 times h, and it (as longs, wrapping)");
        due("the least", new PostProofs().digest(), wrapped(1, 0, 0, 0, 0, 0, 0));
        PostProofs x = full(8);
        int[] want = new int[1 + 8 * 3 + 28 + 3];
        int at = 0;
        want[at++] = 8;
        for (int p = 0; p < 8; p++) {
            x.mark(p, 3);
            x.proof(p, 63);
            x.distance(p, 4);
            want[at++] = 3;
            want[at++] = 63;
            want[at++] = 4;
            for (int q = p + 1; q < 8; q++) {
                want[at++] = 1;
            }
        }
        x.scheme(4);
        want[at] = 4;
        due("all at most", x.digest(), wrapped(want));
        says(24, "what count() tells for 2, 4, 5");
        PostProofs y = with(net(1), 4, 3);
        y.proof(0, 63);
        y.distance(0, 4);
        due("one post", y.digest(), wrapped(1, 3, 63, 4, 4, 0, 0));
        dueTriesUsed(y);
        due("tries used", y.digest(), wrapped(1, 3, 63, 4, 4, 30, 0));
        for (int done = 0; done < 20; done++) {
            y.shortest();
        }
        due("ways used", y.digest(), wrapped(1, 3, 63, 4, 4, 30, 20));
        says(24, "of each POST behind it 1 if there is a LINE, else 0");
        due("the first and the last", net(3, 0, 2).digest(), wrapped(3, 0, 0, 0, 0, 1, 0, 0, 0, 0, 0, 0, 0, 0, 0, 0));
        due("the two last", net(3, 2, 1).digest(), wrapped(3, 0, 0, 0, 0, 0, 0, 0, 0, 1, 0, 0, 0, 0, 0, 0));
    }

    private static void lastCall() {
        about = "'An object is used for at most 512 calls after it has been made'";
        PostProofs x = new PostProofs();
        x.posts(5);
        x.scheme(1);
        for (int done = 0; done < 30; done++) {
            due("tryAll(10)", x.tryAll(10), 243);
        }
        for (int done = 0; done < 20; done++) {
            due("longest()", x.longest(), 4);
        }
        for (int call = 52; call < 511; call++) {
            due("proof(4, ..) as call " + (call + 1), x.proof(4, call % 64), call == 52 ? 0 : (call - 1) % 64);
        }
        due("digest() as call 512", x.digest(),
            wrapped(5, 0, 0, 0, 0, 0, 0, 0, 0, 0, 0, 0, 0, 0, 0, 0, 0, 0, 0, 0, 0, 0, 0, 0, 510 % 64, 0, 1, 30, 20));
    }

    public static void main(String[] args) {
        newObject();
        posts();
        line();
        mark();
        scheme();
        holds();
        sets();
        far();
        proof();
        acceptsColours();
        acceptsLeaders();
        acceptsScattered();
        acceptsNoRings();
        against();
        prove();
        tryAll();
        attempt();
        numbers();
        slip();
        distance();
        restless();
        move();
        mend();
        ways();
        count();
        digest();
        lastCall();
        end();
    }
}
