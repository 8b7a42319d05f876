import java.math.BigInteger;
import java.util.function.Supplier;
import java.util.function.ToLongFunction;

/** Each refusal of the document: just beyond the edge and far from it, the first of several, with nothing changed. */
public final class RefusalsTest extends NetTest {
    private static final int MOST = Integer.MAX_VALUE;
    private static final int LEAST = Integer.MIN_VALUE;

    private static final class State {
        final String name;
        final int n;
        final Supplier<PostProofs> made;

        State(String name, int n, Supplier<PostProofs> made) {
            this.name = name;
            this.n = n;
            this.made = made;
        }
    }

    /** Objects that calls are refused by: as small, as full and as far used as can be. */
    private static final State[] STATES = {
        new State("a new object", 1, PostProofs::new),
        new State("a busy net", 4, NetTest::busy),
        new State("a full net", 8, RefusalsTest::fullest),
        new State("a used net", 5, RefusalsTest::used)};

    private static PostProofs fullest() {
        PostProofs x = full(8);
        for (int p = 0; p < 8; p++) {
            x.mark(p, 3);
            x.proof(p, 63);
            x.distance(p, 4);
        }
        x.scheme(4);
        return x;
    }

    /** A net whose tries and ways are all done. */
    private static PostProofs used() {
        PostProofs x = with(path(5), 2, 0, 0, 1, 0, 0);
        useTries(x, 30);
        useWays(x, 20);
        give(x, 18, 17, 16, 17, 63);
        return x;
    }

    private static void useTries(PostProofs x, int times) {
        for (int done = 0; done < times; done++) {
            x.tryAll(1);
        }
    }

    private static void useWays(PostProofs x, int times) {
        for (int done = 0; done < times; done++) {
            x.longest();
        }
    }

    private static void says(int promise, String words) {
        about = "promise " + promise + ", '" + words + "'";
    }

    /** A call that is refused by a made object, which then is as one that was never asked. */
    private static void refused(String what, Supplier<PostProofs> made, ToLongFunction<PostProofs> call, long want) {
        PostProofs x = made.get();
        due(what, call.applyAsLong(x), want);
        due(what + ", again", call.applyAsLong(x), want);
        dueAlike(what, x, made.get());
    }

    private static void refusedByAll(String what, ToLongFunction<PostProofs> call, long want) {
        for (State s : STATES) {
            refused(what + " by " + s.name, s.made, call, want);
        }
    }

    private static void dueAlike(String what, PostProofs x, PostProofs untouched) {
        due(what + ", then digest()", x.digest(), untouched.digest());
        for (int k = 0; k < 6; k++) {
            due(what + ", then count(" + k + ")", x.count(k), untouched.count(k));
        }
        due(what + ", then holds()", x.holds(), untouched.holds());
        due(what + ", then sets()", x.sets(), untouched.sets());
        due(what + ", then against()", x.against(), untouched.against());
        due(what + ", then restless()", x.restless(), untouched.restless());
        due(what + ", then tryAll(1)", x.tryAll(1), untouched.tryAll(1));
        due(what + ", then longest()", x.longest(), untouched.longest());
        due(what + ", then mend()", x.mend(), untouched.mend());
        due(what + ", then prove()", x.prove(), untouched.prove());
        due(what + ", then digest() once more", x.digest(), untouched.digest());
    }

    private interface PostCall {
        long of(PostProofs x, int p);
    }

    /** A call that names a post, with numbers that name none of the net's. */
    private static void unknown(String what, PostCall call) {
        for (State s : STATES) {
            for (int p : new int[] {-1, s.n, s.n + 1, 8, 9, 31, 32, 33, 64, LEAST, LEAST + 1, MOST}) {
                if (p < 0 || p >= s.n) {
                    refused(what + ", p = " + p + ", by " + s.name, s.made, x -> call.of(x, p), UNKNOWN);
                }
            }
        }
    }

    private static void posts() {
        says(2, "n POSTS (n 1 to 8). OUTSIDE.");
        for (int n : new int[] {0, 9, -1, 10, 16, 257, LEAST, MOST}) {
            refusedByAll("posts(" + n + ")", x -> x.posts(n), OUTSIDE);
        }
    }

    private static void line() {
        says(3, "UNKNOWN: a, b");
        unknown("line(p, 0, true)", (x, p) -> x.line(p, 0, true));
        unknown("line(p, 0, false)", (x, p) -> x.line(p, 0, false));
        unknown("line(0, p, true)", (x, p) -> x.line(0, p, true));
        unknown("line(0, p, false)", (x, p) -> x.line(0, p, false));
        unknown("line(p, -2, true)", (x, p) -> x.line(p, -2, true));
        says(3, "OUTSIDE: they are the same.");
        for (State s : STATES) {
            for (int p = 0; p < s.n; p++) {
                int q = p;
                refused("line(" + p + ", " + p + ", true) by " + s.name, s.made, x -> x.line(q, q, true), OUTSIDE);
                refused("line(" + p + ", " + p + ", false) by " + s.name, s.made, x -> x.line(q, q, false), OUTSIDE);
            }
        }
        says(3, "UNKNOWN ahead of OUTSIDE");
        unknown("line(p, p, true)", (x, p) -> x.line(p, p, true));
        unknown("line(p, p, false)", (x, p) -> x.line(p, p, false));
    }

    private static void values(int promise, int most, String name, ValueCall call) {
        int[] beyond = {-1, most + 1, -2, most + 2, 256, LEAST, LEAST + 1, MOST};
        says(promise, "A " + name + " becomes v .. UNKNOWN");
        unknown(name + "(p, 0)", (x, p) -> call.of(x, p, 0));
        unknown(name + "(p, " + most + ")", (x, p) -> call.of(x, p, most));
        says(promise, "A " + name + " becomes v .. OUTSIDE");
        for (State s : STATES) {
            for (int v : beyond) {
                refused(name + "(0, " + v + ") by " + s.name, s.made, x -> call.of(x, 0, v), OUTSIDE);
                refused(name + "(last, " + v + ") by " + s.name, s.made, x -> call.of(x, s.n - 1, v), OUTSIDE);
            }
        }
        says(promise, name + ": UNKNOWN ahead of OUTSIDE");
        for (int v : beyond) {
            unknown(name + "(p, " + v + ")", (x, p) -> call.of(x, p, v));
        }
    }

    private interface ValueCall {
        long of(PostProofs x, int p, int v);
    }

    private static void scheme() {
        says(5, "The SCHEME becomes k. OUTSIDE.");
        for (int k : new int[] {-1, 5, 6, 8, 256, LEAST, MOST}) {
            refusedByAll("scheme(" + k + ")", x -> x.scheme(k), OUTSIDE);
        }
    }

    private static void far() {
        says(8, "How many LINES two POSTS are away from one another. UNKNOWN.");
        unknown("far(p, 0)", (x, p) -> x.far(p, 0));
        unknown("far(0, p)", (x, p) -> x.far(0, p));
        unknown("far(p, p)", (x, p) -> x.far(p, p));
    }

    private static void accepts() {
        says(10, "Whether a POST ACCEPTS. UNKNOWN.");
        unknown("accepts(p)", (x, p) -> x.accepts(p));
    }

    private static void triesOutside() {
        int[] beyond = {0, 65, -1, 66, 128, LEAST, MOST};
        says(13, "TRYING by B (1 to 64). OUTSIDE (ahead of STATE, where the tries are done)");
        for (int b : beyond) {
            refusedByAll("tryAll(" + b + ")", x -> x.tryAll(b), OUTSIDE);
        }
        says(14, "OUTSIDE; STATE, as tryAll().");
        for (int b : beyond) {
            for (int i : new int[] {0, -1, MOST}) {
                refusedByAll("attempt(" + b + ", " + i + ")", x -> x.attempt(b, i), OUTSIDE);
            }
        }
    }

    private static void triesTooMany() {
        BigInteger most = BigInteger.valueOf(100000);
        for (int n = 1; n <= 8; n++) {
            int size = n;
            for (int b = 1; b <= 64; b++) {
                int below = b;
                // Nobody is scattered without marks, so that what is not refused is soon done.
                Supplier<PostProofs> made = () -> with(net(size), 3);
                String what = n + " posts by " + b;
                if (BigInteger.valueOf(b).pow(n).compareTo(most) > 0) {
                    says(13, "STATE: there are more than 100000");
                    refused("tryAll, " + what, made, x -> x.tryAll(below), STATE);
                    says(14, "STATE, as tryAll() (more than 100000)");
                    refused("attempt, " + what, made, x -> x.attempt(below, 0), STATE);
                } else {
                    says(13, "only where B to the n is 100000 at most");
                    PostProofs x = made.get();
                    due("tryAll, " + what, x.tryAll(b), 0);
                    due("attempt, " + what, x.attempt(b, 0), NONE);
                    due("count(4), " + what, x.count(4), 2);
                }
            }
        }
    }

    private static void triesDone() {
        says(13, "STATE: .. or it was done 30 times with attempt().");
        for (int byAttempt = 0; byAttempt <= 30; byAttempt++) {
            int attempts = byAttempt;
            Supplier<PostProofs> made = () -> triedOften(attempts);
            refused("tryAll(1) behind " + byAttempt + " attempts", made, x -> x.tryAll(1), STATE);
            refused("tryAll(64) behind " + byAttempt + " attempts", made, x -> x.tryAll(64), STATE);
            refused("attempt(1, 0) behind " + byAttempt + " attempts", made, x -> x.attempt(1, 0), STATE);
            refused("attempt(1, -1) behind " + byAttempt + " attempts", made, x -> x.attempt(1, -1), STATE);
        }
        says(13, "STATE (a new net and another SCHEME do not help)");
        PostProofs x = triedOften(15);
        x.posts(1);
        x.scheme(4);
        due("tryAll(1)", x.tryAll(1), STATE);
        due("attempt(1, 0)", x.attempt(1, 0), STATE);
        says(13, "(refused tries were not done)");
        PostProofs y = net(8);
        for (int i = 0; i < 40; i++) {
            due("tryAll(0)", y.tryAll(0), OUTSIDE);
            due("attempt(65, 0)", y.attempt(65, 0), OUTSIDE);
            due("tryAll(5)", y.tryAll(5), STATE);
            due("attempt(64, 0)", y.attempt(64, 0), STATE);
        }
        due("count(4)", y.count(4), 0);
        for (int done = 0; done < 30; done++) {
            due("tryAll(2)", y.tryAll(2), 256);
        }
        due("tryAll(2)", y.tryAll(2), STATE);
        due("count(4)", y.count(4), 30);
    }

    private static PostProofs triedOften(int attempts) {
        PostProofs x = net(2);
        for (int done = 0; done < 30; done++) {
            due("before all are done", done < attempts ? x.attempt(2, 3) : x.tryAll(2), done < attempts ? 1 : 4);
        }
        return x;
    }

    private static void slip() {
        says(16, "OUTSIDE (as -102): t, part.");
        for (int t : new int[] {-1, 11, 12, 20, 256, LEAST, MOST}) {
            refusedByAll("slip(" + t + ", 0)", x -> x.slip(t, 0), -102L);
            refusedByAll("slip(" + t + ", 1)", x -> x.slip(t, 1), -102L);
            refusedByAll("slip(" + t + ", 2)", x -> x.slip(t, 2), -102L);
        }
        for (int part : new int[] {-1, 2, 3, 256, LEAST, MOST}) {
            refusedByAll("slip(0, " + part + ")", x -> x.slip(0, part), -102L);
            refusedByAll("slip(10, " + part + ")", x -> x.slip(10, part), -102L);
        }
    }

    private static void move() {
        says(19, "A MOVE of a POST. UNKNOWN (ahead of STATE)");
        unknown("move(p)", (x, p) -> x.move(p));
        says(19, "STATE: it is not RESTLESS.");
        refused("the only post", PostProofs::new, x -> x.move(0), STATE);
        Supplier<PostProofs> apart = RefusalsTest::apart;
        for (int p = 0; p < 8; p++) {
            int q = p;
            refused("move(" + p + ") of eight apart", apart, x -> x.move(q), STATE);
        }
        PostProofs x = path(2);
        due("move(1)", x.move(1), 1);
        due("move(1) done", x.move(1), STATE);
        x.distance(0, 3);
        due("move(1) beside 3", x.move(1), 4);
        due("move(0) from 3", x.move(0), 0);
        due("move(0) done", x.move(0), STATE);
        due("digest()", x.digest(), digestOf(2, 0, 0, 0, 1, 0, 0, 4, 0, 0, 0));
    }

    /** Eight posts without lines, at rest. */
    private static PostProofs apart() {
        PostProofs x = net(8);
        set(x, 0, 4, 4, 4, 4, 4, 4, 4);
        return x;
    }

    private static void ways() {
        for (int n = 6; n <= 8; n++) {
            int size = n;
            says(21, "STATE: n is above 5");
            refused("longest() of " + n, () -> path(size), x -> x.longest(), STATE);
            says(22, "STATE, as longest() (n is above 5)");
            refused("shortest() of " + n, () -> path(size), x -> x.shortest(), STATE);
        }
        for (int byShortest = 0; byShortest <= 20; byShortest++) {
            int shortests = byShortest;
            Supplier<PostProofs> made = () -> goneOften(shortests);
            says(21, "STATE: .. or it was done 20 times with shortest().");
            refused("longest() behind " + byShortest, made, x -> x.longest(), STATE);
            says(22, "STATE, as longest() (done 20 times)");
            refused("shortest() behind " + byShortest, made, x -> x.shortest(), STATE);
        }
        says(21, "STATE (a new net does not help)");
        PostProofs x = goneOften(10);
        x.posts(1);
        due("longest()", x.longest(), STATE);
        due("shortest()", x.shortest(), STATE);
        due("mend() is no such way", x.mend(), 0);
        says(21, "(refused ways were not done)");
        PostProofs y = net(6);
        for (int i = 0; i < 30; i++) {
            due("longest()", y.longest(), STATE);
            due("shortest()", y.shortest(), STATE);
        }
        due("count(5)", y.count(5), 0);
        y.posts(5);
        for (int done = 0; done < 20; done++) {
            due("longest()", y.longest(), 4);
        }
        due("longest()", y.longest(), STATE);
        due("count(5)", y.count(5), 20);
    }

    private static PostProofs goneOften(int shortests) {
        PostProofs x = path(3);
        for (int done = 0; done < 20; done++) {
            due("before all are done", done < shortests ? x.shortest() : x.longest(), done < shortests ? 2 : 3);
        }
        return x;
    }

    private static void count() {
        says(23, "How many: .. OUTSIDE.");
        for (int what : new int[] {-1, 6, 7, 8, 256, LEAST, MOST}) {
            refusedByAll("count(" + what + ")", x -> x.count(what), OUTSIDE);
        }
    }

    public static void main(String[] args) {
        posts();
        line();
        values(4, 3, "mark", (x, p, v) -> x.mark(p, v));
        scheme();
        far();
        values(9, 63, "proof", (x, p, v) -> x.proof(p, v));
        accepts();
        triesOutside();
        triesTooMany();
        triesDone();
        slip();
        values(17, 4, "distance", (x, p, v) -> x.distance(p, v));
        move();
        ways();
        count();
        end();
    }
}
