/** Each promise of the document on nets small enough to be worked out by hand. */
public final class PromisesTest extends NetTest {
    private static final int[] NO_POST = {-1, 4, 8, 31, 32, 64, Integer.MIN_VALUE, Integer.MAX_VALUE};

    private static void newObject() {
        about = "promise 1";
        PostProofs x = new PostProofs();
        int[] counts = {1, 0, 0, 0, 0, 0};
        for (int what = 0; what < counts.length; what++) {
            due("count(" + what + ")", x.count(what), counts[what]);
        }
        due("digest()", x.digest(), digestOf(1, 0, 0, 0, 0, 0, 0));
        due("holds()", x.holds(), 1);
        due("sets()", x.sets(), 1);
        due("accepts(0)", x.accepts(0), 1);
        due("accepts(1)", x.accepts(1), UNKNOWN);
        due("restless()", x.restless(), 0);
    }

    private static void posts() {
        about = "promise 2";
        PostProofs x = busy();
        long before = x.digest();
        for (int n : new int[] {0, -1, 9, 10, Integer.MIN_VALUE, Integer.MAX_VALUE}) {
            due("posts(" + n + ")", x.posts(n), OUTSIDE);
            due("digest() behind it", x.digest(), before);
        }
        due("posts(4)", x.posts(4), 4);
        due("digest()", x.digest(), digestOf(4, 0, 0, 0, 0, 0, 0, 0, 0, 0, 0, 0, 0, 0, 0, 0, 0, 0, 0, 1, 1, 1));
        for (int n = 1; n <= 8; n++) {
            due("posts(" + n + ")", x.posts(n), n);
            due("count(0)", x.count(0), n);
            due("sets()", x.sets(), n);
            due("the last post", x.accepts(n - 1), 1);
            due("the one behind it", x.accepts(n), UNKNOWN);
        }
        x.line(6, 7, true);
        x.posts(2);
        x.posts(8);
        due("a line of a net before", x.line(6, 7, false), 0);
    }

    private static void line() {
        about = "promise 3";
        PostProofs x = net(4);
        due("line(0, 3, false)", x.line(0, 3, false), 0);
        due("line(0, 3, true)", x.line(0, 3, true), 0);
        due("line(3, 0, true)", x.line(3, 0, true), 1);
        due("count(1)", x.count(1), 1);
        due("line(2, 1, true)", x.line(2, 1, true), 0);
        due("line(3, 0, false)", x.line(3, 0, false), 1);
        due("line(0, 3, false)", x.line(0, 3, false), 0);
        due("line(1, 2, true)", x.line(1, 2, true), 1);
        due("count(1)", x.count(1), 1);
        long before = x.digest();
        for (int p : NO_POST) {
            due("line(" + p + ", 1, true)", x.line(p, 1, true), UNKNOWN);
            due("line(1, " + p + ", true)", x.line(1, p, true), UNKNOWN);
            due("line(" + p + ", " + p + ", true)", x.line(p, p, true), UNKNOWN);
        }
        for (int p = 0; p < 4; p++) {
            due("line(" + p + ", " + p + ", true)", x.line(p, p, true), OUTSIDE);
            due("line(" + p + ", " + p + ", false)", x.line(p, p, false), OUTSIDE);
        }
        due("digest() behind refusals", x.digest(), before);
    }

    private static void mark() {
        about = "promise 4";
        PostProofs x = net(4);
        int was = 0;
        for (int v : new int[] {1, 3, 2, 0, 0, 3}) {
            due("mark(3, " + v + ")", x.mark(3, v), was);
            was = v;
        }
        due("mark(2, 1)", x.mark(2, 1), 0);
        long before = x.digest();
        for (int p : NO_POST) {
            due("mark(" + p + ", 1)", x.mark(p, 1), UNKNOWN);
            due("mark(" + p + ", 4)", x.mark(p, 4), UNKNOWN);
        }
        for (int v : new int[] {-1, 4, 64, Integer.MIN_VALUE, Integer.MAX_VALUE}) {
            due("mark(0, " + v + ")", x.mark(0, v), OUTSIDE);
        }
        due("digest() behind refusals", x.digest(), before);
    }

    private static void scheme() {
        about = "promise 5";
        PostProofs x = net(2);
        int was = 0;
        for (int k : new int[] {4, 3, 2, 1, 0, 0, 2}) {
            due("scheme(" + k + ")", x.scheme(k), was);
            due("count(2)", x.count(2), k);
            was = k;
        }
        for (int k : new int[] {-1, 5, 64, Integer.MIN_VALUE, Integer.MAX_VALUE}) {
            due("scheme(" + k + ")", x.scheme(k), OUTSIDE);
            due("count(2)", x.count(2), 2);
        }
    }

    private static void holds() {
        about = "promise 6";
        for (int n = 3; n <= 8; n++) {
            due("two colours, ring of " + n, with(ring(n), 0).holds(), n % 2 == 0 ? 1 : 0);
            due("three colours, ring of " + n, with(ring(n), 1).holds(), 1);
            due("no rings, ring of " + n, with(ring(n), 4).holds(), 0);
            due("no rings, path of " + n, with(path(n), 4).holds(), 1);
        }
        for (int n = 1; n <= 8; n++) {
            due("two colours, full net of " + n, with(full(n), 0).holds(), n <= 2 ? 1 : 0);
            due("three colours, full net of " + n, with(full(n), 1).holds(), n <= 3 ? 1 : 0);
            due("no rings, full net of " + n, with(full(n), 4).holds(), n <= 2 ? 1 : 0);
        }
        PostProofs wheel = with(net(6, 0, 1, 1, 2, 2, 3, 3, 4, 4, 0, 5, 0, 5, 1, 5, 2, 5, 3, 5, 4), 1);
        due("three colours, wheel of five", wheel.holds(), 0);
        wheel.line(2, 3, false);
        due("three colours, broken wheel", wheel.holds(), 1);
        due("no rings, a ring beside a path", with(net(7, 0, 1, 4, 5, 5, 6, 6, 4), 4).holds(), 0);
        due("no rings, no lines", with(net(8), 4).holds(), 1);
        holdsByMarks();
    }

    private static void holdsByMarks() {
        due("a leader each, one", with(path(3), 2, 0, 0, 1).holds(), 1);
        due("a leader each, none", with(path(3), 2, 0, 2, 3).holds(), 0);
        due("a leader each, two", with(path(3), 2, 1, 0, 1).holds(), 0);
        due("a leader each, one of two sets without", with(net(4, 0, 1, 2, 3), 2, 1, 0, 0, 0).holds(), 0);
        due("a leader each, two sets", with(net(4, 0, 1, 2, 3), 2, 1, 2, 3, 1).holds(), 1);
        due("a leader each, two in one set", with(net(4, 0, 1, 2, 3), 2, 1, 1, 0, 0).holds(), 0);
        due("scattered, middle", with(path(3), 3, 0, 1, 0).holds(), 1);
        due("scattered, ends", with(path(3), 3, 1, 0, 1).holds(), 1);
        due("scattered, one end", with(path(3), 3, 1, 0, 0).holds(), 0);
        due("scattered, neighbours", with(path(3), 3, 1, 1, 0).holds(), 0);
        due("scattered, other marks", with(path(3), 3, 2, 1, 3).holds(), 1);
        due("scattered, only other marks", with(path(2), 3, 2, 3).holds(), 0);
        due("scattered, alone without", with(net(1), 3, 0).holds(), 0);
        due("scattered, alone with", with(net(1), 3, 1).holds(), 1);
        PostProofs x = with(path(3), 3, 0, 1, 0);
        give(x, 5, 5, 5);
        due("a claim, whatever the proof is", x.holds(), 1);
        dueProof("behind holds()", x, 5, 5, 5);
    }

    private static void sets() {
        about = "promise 7";
        due("sets() without lines", net(8).sets(), 8);
        due("sets() of a path", path(8).sets(), 1);
        due("sets() of a ring", ring(5).sets(), 1);
        due("sets() of pairs from far ends", net(6, 0, 5, 1, 4, 2, 3).sets(), 3);
        PostProofs x = net(5, 0, 4, 4, 2, 1, 3);
        due("sets()", x.sets(), 2);
        x.line(3, 2, true);
        due("sets() with a bridge", x.sets(), 1);
        x.line(4, 2, false);
        due("sets() with a line less", x.sets(), 2);
    }

    private static void far() {
        about = "promise 8";
        PostProofs x = path(8);
        for (int a = 0; a < 8; a++) {
            for (int b = 0; b < 8; b++) {
                due("far(" + a + ", " + b + ") of a path", x.far(a, b), Math.abs(a - b));
            }
        }
        x.line(0, 7, true);
        due("far(0, 7) of a ring", x.far(0, 7), 1);
        due("far(1, 6) of a ring", x.far(1, 6), 3);
        due("far(0, 4) of a ring", x.far(0, 4), 4);
        PostProofs y = net(4, 0, 2);
        due("far(0, 1) apart", y.far(0, 1), NONE);
        due("far(3, 2) apart", y.far(3, 2), NONE);
        due("far(3, 3)", y.far(3, 3), 0);
        for (int p : NO_POST) {
            due("far(" + p + ", 0)", y.far(p, 0), UNKNOWN);
            due("far(0, " + p + ")", y.far(0, p), UNKNOWN);
            due("far(" + p + ", " + p + ")", y.far(p, p), UNKNOWN);
        }
    }

    private static void proof() {
        about = "promise 9";
        PostProofs x = net(4);
        int was = 0;
        for (int v : new int[] {63, 0, 1, 32, 32, 7}) {
            due("proof(3, " + v + ")", x.proof(3, v), was);
            was = v;
        }
        due("proof(0, 1)", x.proof(0, 1), 0);
        long before = x.digest();
        for (int p : NO_POST) {
            due("proof(" + p + ", 1)", x.proof(p, 1), UNKNOWN);
            due("proof(" + p + ", 64)", x.proof(p, 64), UNKNOWN);
        }
        for (int v : new int[] {-1, 64, 65, Integer.MIN_VALUE, Integer.MAX_VALUE}) {
            due("proof(0, " + v + ")", x.proof(0, v), OUTSIDE);
        }
        due("digest() behind refusals", x.digest(), before);
    }

    private static void accepts() {
        about = "promise 10";
        for (int v = 0; v < 64; v++) {
            for (int scheme = 0; scheme < 5; scheme++) {
                PostProofs x = with(net(8), scheme);
                x.mark(5, 1);
                x.proof(5, v);
                int[] wants = {v < 2 ? 1 : 0, v < 3 ? 1 : 0, v == 40 ? 1 : 0, v == 0 ? 1 : 0, v == 0 ? 1 : 0};
                dueAccepts("alone, scheme " + scheme + ", number " + v, x, 5, wants[scheme]);
            }
        }
        PostProofs x = path(3);
        give(x, 0, 1, 1);
        int[] wants = {1, 0, 0};
        for (int p = 0; p < 3; p++) {
            dueAccepts("0 1 1 by two colours", with(x, 0), p, wants[p]);
            dueAccepts("0 1 1 by three colours", with(x, 1), p, wants[p]);
        }
        give(x, 0, 2, 0);
        dueAccepts("0 2 0 by two colours", with(x, 0), 0, 1);
        dueAccepts("0 2 0 by two colours", x, 1, 0);
        dueAccepts("0 2 0 by three colours", with(x, 1), 1, 1);
        for (int p : NO_POST) {
            dueAccepts("path of four", path(4), p, UNKNOWN);
        }
        acceptsLeader();
        acceptsScattered();
        acceptsNoRings();
    }

    private static void acceptsLeader() {
        PostProofs x = with(path(4), 2, 0, 1, 0, 0);
        give(x, 9, 8, 9, 10);
        for (int p = 0; p < 4; p++) {
            dueAccepts("right numbers", x, p, 1);
        }
        x.proof(3, 11);
        dueAccepts("two more than the neighbour", x, 3, 0);
        dueAccepts("that neighbour", x, 2, 1);
        x.proof(3, 18);
        dueAccepts("another leader", x, 3, 0);
        dueAccepts("a neighbour's other leader", x, 2, 0);
        give(x, 1, 0, 1, 2);
        dueAccepts("d 0, but r another", x, 1, 0);
        dueAccepts("beside it", x, 0, 1);
        give(x, 9, 8, 9, 10);
        x.mark(1, 2);
        dueAccepts("d 0 without the mark", x, 1, 0);
        x.mark(1, 1);
        x.mark(3, 1);
        dueAccepts("d 2 with the mark", x, 3, 0);
        x.mark(3, 3);
        dueAccepts("d 2 with mark 3", x, 3, 1);
        PostProofs y = with(full(3), 2, 1, 0, 0);
        give(y, 0, 1, 2);
        dueAccepts("a way about", y, 2, 1);
        dueAccepts("a way about", y, 1, 1);
        dueAccepts("a way about", y, 0, 1);
        PostProofs z = with(path(2), 2, 0, 0);
        give(z, 7, 8);
        dueAccepts("one more, but of another leader", z, 1, 0);
        give(z, 8, 7);
        dueAccepts("one less in all, but of another leader", z, 0, 0);
    }

    private static void acceptsScattered() {
        PostProofs x = with(path(4), 3, 1, 1, 0, 0);
        int[] wants = {0, 0, 1, 0};
        for (int p = 0; p < 4; p++) {
            dueAccepts("marks 1 1 0 0", x, p, wants[p]);
        }
        x.proof(2, 1);
        dueAccepts("number 1", x, 2, 0);
        dueAccepts("a neighbour's number 1", with(x, 3, 1, 0, 1, 0), 1, 1);
        dueAccepts("marks 2 and 3 do not count", with(x, 3, 2, 1, 3, 1), 1, 1);
    }

    private static void acceptsNoRings() {
        PostProofs x = with(net(4, 0, 1, 0, 2, 0, 3), 4);
        give(x, 1, 0, 2, 2);
        for (int p = 0; p < 4; p++) {
            dueAccepts("right numbers", x, p, 1);
        }
        x.proof(2, 0);
        dueAccepts("two with one less", x, 0, 0);
        x.proof(2, 1);
        dueAccepts("a neighbour alike", x, 0, 0);
        x.proof(2, 3);
        dueAccepts("a neighbour two more", x, 0, 0);
        give(x, 0, 1, 1, 2);
        dueAccepts("0 with a neighbour 2", x, 0, 0);
        give(x, 1, 2, 2, 2);
        dueAccepts("none with one less", x, 0, 0);
        give(x, 7, 6, 8, 8);
        dueAccepts("7", x, 0, 1);
        dueAccepts("8", x, 2, 0);
        give(x, 8, 7, 9, 9);
        dueAccepts("8 with one less", x, 0, 0);
    }

    private static void against() {
        about = "promise 11";
        PostProofs x = net(8);
        due("against()", x.against(), 0);
        give(x, 2, 0, 0, 5, 1, 0, 0, 63);
        due("against()", x.against(), 1 + 8 + 128);
        x.scheme(1);
        due("against() by three colours", x.against(), 8 + 128);
        due("against() of a full net", with(full(8), 0).against(), 255);
        PostProofs y = with(path(3), 2, 0, 1, 0);
        due("against() of the wrong leader", y.against(), 7);
        give(y, 9, 8, 9);
        due("against() of the right one", y.against(), 0);
    }

    private static void prove() {
        about = "promise 12";
        PostProofs x = with(net(5, 0, 3, 3, 1, 2, 4), 0);
        due("prove()", x.prove(), 1);
        dueProof("two colours", x, 0, 0, 0, 1, 1);
        x = with(net(5, 0, 1, 1, 2, 2, 0, 2, 3, 3, 4), 1);
        due("prove()", x.prove(), 1);
        dueProof("three colours", x, 0, 1, 2, 0, 1);
        // The least number for each post in turn would leave none for post 5.
        x = with(net(6, 0, 3, 1, 4, 2, 5, 3, 4, 4, 5, 5, 3), 1);
        due("prove()", x.prove(), 1);
        dueProof("three colours, with a way back", x, 0, 0, 1, 1, 2, 0);
        x = with(net(7, 6, 1, 1, 3, 0, 2, 2, 4, 4, 0, 0, 5), 2, 0, 2, 0, 0, 1, 0, 1);
        due("prove()", x.prove(), 1);
        dueProof("a leader each", x, 33, 49, 33, 50, 32, 34, 48);
        due("against()", x.against(), 0);
        x = with(path(3), 3, 1, 0, 1);
        give(x, 1, 2, 3);
        due("prove()", x.prove(), 1);
        dueProof("scattered", x, 0, 0, 0);
        x = with(net(7, 6, 1, 1, 3, 5, 4, 2, 4, 0, 2), 4);
        due("prove()", x.prove(), 1);
        dueProof("no rings", x, 0, 0, 1, 1, 2, 3, 1);
        x = with(path(8), 4);
        due("prove()", x.prove(), 1);
        dueProof("no rings, the longest path", x, 0, 1, 2, 3, 4, 5, 6, 7);
        proveNot();
    }

    private static void proveNot() {
        PostProofs[] claims = {with(ring(5), 0), with(full(4), 1), with(net(4, 0, 1, 2, 3), 2, 1, 0, 0, 0),
            with(path(3), 3, 1, 0, 0), with(net(5, 0, 1, 2, 3, 3, 4, 4, 2), 4)};
        for (int k = 0; k < claims.length; k++) {
            give(claims[k], 3, 1, 4);
            long before = claims[k].digest();
            due("prove() of scheme " + k, claims[k].prove(), 0);
            due("digest() behind it", claims[k].digest(), before);
        }
    }

    private static void tryAll() {
        about = "promise 13";
        due("tryAll(1), ring of four", with(ring(4), 0).tryAll(1), 0);
        due("tryAll(2), ring of four", with(ring(4), 0).tryAll(2), 2);
        due("tryAll(17), ring of four", with(ring(4), 0).tryAll(17), 2);
        due("tryAll(3), ring of five", with(ring(5), 0).tryAll(3), 0);
        due("tryAll(2), ring of three", with(ring(3), 1).tryAll(2), 0);
        due("tryAll(3), ring of three", with(ring(3), 1).tryAll(3), 6);
        due("tryAll(4), no lines", with(net(8), 1).tryAll(4), 6561);
        due("tryAll(64), pair", with(path(2), 1).tryAll(64), 6);
        due("tryAll(2), way about", with(full(3), 2, 1, 0, 0).tryAll(2), 1);
        due("tryAll(3), way about", with(full(3), 2, 1, 0, 0).tryAll(3), 3);
        due("tryAll(9), leader 1", with(path(3), 2, 0, 1, 0).tryAll(9), 0);
        due("tryAll(10), leader 1", with(path(3), 2, 0, 1, 0).tryAll(10), 1);
        due("tryAll(46), no leader", with(path(3), 2).tryAll(46), 0);
        due("tryAll(4), scattered", with(path(8), 3, 0, 1, 0, 0, 1, 0, 0, 1).tryAll(4), 1);
        due("tryAll(4), not scattered", with(path(8), 3, 0, 1, 0, 0, 1, 0, 0, 0).tryAll(4), 0);
        due("tryAll(2), path of four", with(path(4), 4).tryAll(2), 0);
        due("tryAll(3), path of four", with(path(4), 4).tryAll(3), 2);
        due("tryAll(17), path of four", with(path(4), 4).tryAll(17), 4);
        due("tryAll(10), ring of five", with(ring(5), 4).tryAll(10), 0);
        PostProofs x = with(path(3), 0);
        give(x, 9, 8, 7);
        due("tryAll(3)", x.tryAll(3), 2);
        dueProof("behind tryAll()", x, 9, 8, 7);
        due("count(4)", x.count(4), 1);
        tryAllRefused();
    }

    /** For n posts the greatest b that may be tried. */
    private static final int[] MOST_B = {0, 64, 64, 46, 17, 10, 6, 5, 4};

    private static void tryAllRefused() {
        for (int n = 1; n <= 8; n++) {
            PostProofs x = with(net(n), 3);
            due("tryAll of " + n + " posts by " + MOST_B[n], x.tryAll(MOST_B[n]), 0);
            due("attempt of " + n + " posts by " + MOST_B[n], x.attempt(MOST_B[n], 0), NONE);
            int more = MOST_B[n] + 1;
            due("tryAll of " + n + " posts by " + more, x.tryAll(more), more > 64 ? OUTSIDE : STATE);
            due("attempt of " + n + " posts by " + more, x.attempt(more, 0), more > 64 ? OUTSIDE : STATE);
            due("tryAll of " + n + " posts by 64", x.tryAll(64), n > 2 ? STATE : 0);
            due("count(4)", x.count(4), n > 2 ? 2 : 3);
        }
        PostProofs x = with(path(8), 0);
        long before = x.digest();
        for (int b : new int[] {0, -1, 65, Integer.MIN_VALUE, Integer.MAX_VALUE}) {
            due("tryAll(" + b + ")", x.tryAll(b), OUTSIDE);
            due("attempt(" + b + ", 0)", x.attempt(b, 0), OUTSIDE);
        }
        due("digest() behind refusals", x.digest(), before);
        for (int done = 0; done < 30; done++) {
            due("try " + done, done % 2 == 0 ? x.tryAll(2) : x.attempt(2, 9), done % 2 == 0 ? 2 : NONE);
            due("count(4)", x.count(4), done + 1);
        }
        before = x.digest();
        due("tryAll(2) once more", x.tryAll(2), STATE);
        due("attempt(2, 0) once more", x.attempt(2, 0), STATE);
        due("tryAll(65) once more", x.tryAll(65), OUTSIDE);
        due("attempt(0, 0) once more", x.attempt(0, 0), OUTSIDE);
        due("digest() behind refusals", x.digest(), before);
        x.posts(1);
        due("tryAll(1) of a new net", x.tryAll(1), STATE);
    }

    private static void attempt() {
        about = "promise 14";
        PostProofs x = with(path(3), 1);
        int[][] stand = {{0, 1, 0}, {0, 1, 2}, {0, 2, 0}, {0, 2, 1}, {1, 0, 1}, {1, 0, 2}, {1, 2, 0}, {1, 2, 1},
            {2, 0, 1}, {2, 0, 2}, {2, 1, 0}, {2, 1, 2}};
        for (int i = 0; i < stand.length; i++) {
            due("attempt(5, " + i + ")", x.attempt(5, i), 1);
            dueProof("attempt(5, " + i + ")", x, stand[i]);
        }
        give(x, 5, 6, 7);
        for (int i : new int[] {12, 13, -1, Integer.MIN_VALUE, Integer.MAX_VALUE}) {
            due("attempt(5, " + i + ")", x.attempt(5, i), NONE);
            dueProof("attempt(5, " + i + ")", x, 5, 6, 7);
        }
        due("count(4)", x.count(4), 17);
        x = with(path(4), 4);
        due("attempt(3, 0)", x.attempt(3, 0), 1);
        dueProof("attempt(3, 0)", x, 1, 0, 1, 2);
        due("attempt(4, 0)", x.attempt(4, 0), 1);
        dueProof("attempt(4, 0)", x, 0, 1, 2, 3);
        due("attempt(4, 3)", x.attempt(4, 3), 1);
        dueProof("attempt(4, 3)", x, 3, 2, 1, 0);
        due("attempt(4, 4)", x.attempt(4, 4), NONE);
        x = with(full(3), 2, 1, 0, 0);
        due("attempt(9, 2)", x.attempt(9, 2), 1);
        dueProof("attempt(9, 2)", x, 0, 2, 1);
    }

    private static void numbers() {
        about = "promise 15";
        due("numbers() without lines", with(net(3), 0).numbers(), 1);
        due("numbers() of two colours", with(path(3), 0).numbers(), 2);
        due("numbers() where two do", with(path(3), 1).numbers(), 2);
        due("numbers() of three colours", with(ring(5), 1).numbers(), 3);
        // Two would do, but the first proof that stands is 0 0 1 2.
        due("numbers() of the first one", with(net(4, 0, 2, 2, 3, 3, 1), 1).numbers(), 3);
        due("numbers() of a leader", with(path(8), 2, 0, 0, 0, 0, 0, 0, 0, 1).numbers(), 64);
        due("numbers() of leader 0", with(path(8), 2, 1).numbers(), 8);
        due("numbers() of scattered", with(path(3), 3, 0, 1, 0).numbers(), 1);
        due("numbers() of no rings", with(path(8), 4).numbers(), 8);
        due("numbers() not two colours", with(ring(3), 0).numbers(), NONE);
        due("numbers() not three colours", with(full(4), 1).numbers(), NONE);
        due("numbers() no leader", with(path(3), 2).numbers(), NONE);
        due("numbers() not scattered", with(path(3), 3).numbers(), NONE);
        due("numbers() a ring", with(ring(8), 4).numbers(), NONE);
        PostProofs x = with(path(3), 0);
        give(x, 60, 61, 62);
        due("numbers()", x.numbers(), 2);
        dueProof("behind numbers()", x, 60, 61, 62);
    }

    private static void slip() {
        about = "promise 16";
        int[] above = {1, 9, 4, 7, 3, 1, 2, 3, 1, 1, 0};
        int[] below = {1, 10, 5, 10, 5, 2, 5, 10, 5, 10, 1};
        for (int wrongs = 0; wrongs <= 8; wrongs++) {
            PostProofs x = net(8);
            for (int p = 0; p < wrongs; p++) {
                x.proof(p, 9);
            }
            for (int t = 0; t <= 10; t++) {
                long up = 1;
                long down = 1;
                for (int i = 0; i < wrongs; i++) {
                    up *= above[t];
                    down *= below[t];
                }
                due("slip(" + t + ", 0) of " + wrongs, x.slip(t, 0), up);
                due("slip(" + t + ", 1) of " + wrongs, x.slip(t, 1), down);
            }
        }
        PostProofs x = net(2);
        for (int wrongOne : new int[] {-1, 11, 100, Integer.MIN_VALUE, Integer.MAX_VALUE}) {
            due("slip(" + wrongOne + ", 0)", x.slip(wrongOne, 0), OUTSIDE);
            due("slip(3, " + wrongOne + ")", x.slip(3, wrongOne), OUTSIDE);
            due("slip(" + wrongOne + ", " + wrongOne + ")", x.slip(wrongOne, wrongOne), OUTSIDE);
        }
        due("slip(3, 2)", x.slip(3, 2), OUTSIDE);
    }

    private static void distance() {
        about = "promise 17";
        PostProofs x = net(4);
        int was = 0;
        for (int v : new int[] {4, 0, 1, 3, 3, 2}) {
            due("distance(3, " + v + ")", x.distance(3, v), was);
            was = v;
        }
        due("distance(0, 4)", x.distance(0, 4), 0);
        long before = x.digest();
        for (int p : NO_POST) {
            due("distance(" + p + ", 1)", x.distance(p, 1), UNKNOWN);
            due("distance(" + p + ", 5)", x.distance(p, 5), UNKNOWN);
        }
        for (int v : new int[] {-1, 5, 64, Integer.MIN_VALUE, Integer.MAX_VALUE}) {
            due("distance(0, " + v + ")", x.distance(0, v), OUTSIDE);
        }
        due("digest() behind refusals", x.digest(), before);
    }

    private static void restless() {
        about = "promise 18";
        PostProofs x = path(6);
        due("restless() at first", x.restless(), 62);
        set(x, 0, 1, 2, 3, 4, 4);
        due("restless() at rest", x.restless(), 0);
        set(x, 1, 1, 2, 3, 4, 3);
        due("restless()", x.restless(), 1 + 2 + 32);
        due("restless() without lines", net(8).restless(), 254);
        PostProofs y = net(4, 1, 0, 1, 2, 1, 3);
        set(y, 0, 4, 3, 2);
        due("restless() by the least neighbour", y.restless(), 2 + 4 + 8);
        y.distance(1, 1);
        due("restless()", y.restless(), 4);
    }

    private static void move() {
        about = "promise 19";
        PostProofs x = path(3);
        long before = x.digest();
        for (int p : NO_POST) {
            due("move(" + p + ")", x.move(p), UNKNOWN);
        }
        due("move(3)", x.move(3), UNKNOWN);
        due("move(0)", x.move(0), STATE);
        due("digest() behind refusals", x.digest(), before);
        due("move(2)", x.move(2), 1);
        dueDistances("move(2)", x, 0, 0, 1);
        due("move(1)", x.move(1), 1);
        due("move(1)", x.move(1), STATE);
        due("move(2)", x.move(2), 2);
        dueDistances("move(2)", x, 0, 1, 2);
        x.distance(0, 4);
        due("move(0)", x.move(0), 0);
        PostProofs y = net(3, 1, 2);
        set(y, 0, 2, 4);
        due("move(1), 4 at most", y.move(1), 4);
        due("move(2)", y.move(2), STATE);
        PostProofs z = net(2);
        due("move(1) alone", z.move(1), 4);
    }

    private static void mend() {
        about = "promise 20";
        PostProofs x = path(3);
        due("mend() of a path", x.mend(), 2);
        dueDistances("mend()", x, 0, 1, 2);
        due("mend() again", x.mend(), 0);
        x = net(3, 1, 2);
        due("mend() of a pair apart", x.mend(), 5);
        dueDistances("mend()", x, 0, 4, 4);
        x = path(4);
        // 1: 0 to 1; 2: 0 to 1, by 3; 3: 0 to 2; 2: 1 to 2; 3: 2 to 3.
        due("mend() of four", x.mend(), 5);
        dueDistances("mend()", x, 0, 1, 2, 3);
        x = path(8);
        due("mend() of a long path", x.mend() > 0 ? 1 : 0, 1);
        dueDistances("mend()", x, 0, 1, 2, 3, 4, 4, 4, 4);
        x = net(3, 0, 2, 2, 1);
        set(x, 3, 0, 1);
        // 0: 3 to 0; 1: 0 to 2.
        due("mend()", x.mend(), 2);
        dueDistances("mend()", x, 0, 2, 1);
        x = net(3, 0, 2, 2, 1);
        // 1: 0 to 1; 2: 0 to 1; 1: 1 to 2.
        due("mend(), the least first", x.mend(), 3);
        x = new PostProofs();
        x.distance(0, 4);
        due("mend() of one", x.mend(), 1);
    }

    private static void longest() {
        about = "promise 21";
        PostProofs x = path(3);
        due("longest() of a path", x.longest(), 3);
        dueDistances("behind longest()", x, 0, 0, 0);
        x.mend();
        due("longest() at rest", x.longest(), 0);
        due("longest() of a pair apart", net(3, 1, 2).longest(), 5);
        due("longest() without lines", net(5).longest(), 4);
        x = new PostProofs();
        due("longest() of one", x.longest(), 0);
        x.distance(0, 4);
        due("longest() of one", x.longest(), 1);
        // 1 may take 0's wrong distance first: (4,0), (4,4), (0,4), (0,1).
        x = path(2);
        set(x, 4, 0);
        due("longest() with a wrong start", x.longest(), 3);
        waysRefused();
    }

    private static void waysRefused() {
        for (int n = 1; n <= 8; n++) {
            PostProofs x = net(n);
            due("longest() of " + n, x.longest(), n > 5 ? STATE : n - 1);
            due("shortest() of " + n, x.shortest(), n > 5 ? STATE : n - 1);
            due("count(5)", x.count(5), n > 5 ? 0 : 2);
        }
        PostProofs x = path(2);
        for (int done = 0; done < 20; done++) {
            due("way " + done, done % 2 == 0 ? x.longest() : x.shortest(), 1);
            due("count(5)", x.count(5), done + 1);
        }
        long before = x.digest();
        due("longest() once more", x.longest(), STATE);
        due("shortest() once more", x.shortest(), STATE);
        due("digest() behind refusals", x.digest(), before);
        x.posts(1);
        due("longest() of a new net", x.longest(), STATE);
    }

    private static void shortest() {
        about = "promise 22";
        PostProofs x = path(3);
        due("shortest() of a path", x.shortest(), 2);
        dueDistances("behind shortest()", x, 0, 0, 0);
        x.mend();
        due("shortest() at rest", x.shortest(), 0);
        due("shortest() of a pair apart", net(3, 1, 2).shortest(), 5);
        due("shortest() where the least first is worse", net(3, 0, 2, 2, 1).shortest(), 2);
        x = path(2);
        set(x, 4, 0);
        due("shortest() with a wrong start", x.shortest(), 2);
        // 3 must move away from 0 before 2 can become 2: 3 to 1; 1 to 1; 2 to 2; 3 to 3.
        due("shortest() of four", path(4).shortest(), 4);
    }

    private static void count() {
        about = "promise 23";
        PostProofs x = with(net(5, 0, 1, 1, 2, 4, 0), 3, 1, 2, 3, 1, 0);
        x.tryAll(2);
        x.attempt(2, 0);
        x.attempt(2, -1);
        x.longest();
        x.shortest();
        int[] counts = {5, 3, 3, 2, 3, 2};
        for (int what = 0; what < counts.length; what++) {
            due("count(" + what + ")", x.count(what), counts[what]);
        }
        for (int what : new int[] {-1, 6, 7, Integer.MIN_VALUE, Integer.MAX_VALUE}) {
            due("count(" + what + ")", x.count(what), OUTSIDE);
        }
        due("count(1) of a full net", full(8).count(1), 28);
        x.posts(2);
        int[] after = {2, 0, 3, 0, 3, 2};
        for (int what = 0; what < after.length; what++) {
            due("count(" + what + ") of a new net", x.count(what), after[what]);
        }
    }

    private static void digest() {
        about = "promise 24";
        due("digest()", busy().digest(),
            digestOf(4, 1, 0, 4, 1, 0, 1, 0, 1, 3, 1, 0, 2, 2, 2, 0, 3, 63, 1, 1, 1, 1));
        PostProofs x = net(8);
        long[] want = new long[1 + 8 * 3 + 28 + 3];
        want[0] = 8;
        due("digest() of eight", x.digest(), digestOf(want));
        x.line(7, 6, true);
        x.mark(7, 3);
        // At the end stand 6's line to 7, 7's mark, number, distance, and three counts.
        want[want.length - 7] = 1;
        want[want.length - 6] = 3;
        due("digest() with a line at the end", x.digest(), digestOf(want));
        due("digest() again", x.digest(), digestOf(want));
    }

    public static void main(String[] args) {
        newObject();
        posts();
        line();
        mark();
        scheme();
        holds();
        sets();
        far();
        proof();
        accepts();
        against();
        prove();
        tryAll();
        attempt();
        numbers();
        slip();
        distance();
        restless();
        move();
        mend();
        longest();
        shortest();
        count();
        digest();
        end();
    }
}
