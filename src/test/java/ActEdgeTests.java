import java.math.BigInteger;

/** Part 4 of the Terms, and promises 12 to 14 and 40 to 46: each sentence that names a boundary case. */
public final class ActEdgeTests {
    private static final int NONE = Edge.NONE;
    private static final int HIDDEN = Edge.HIDDEN;
    private static final int LEAST = Edge.LEAST;
    private static final int MOST = Edge.MOST;
    private static final int[] SELVES_OUTSIDE = Edge.outside(0, 4);
    private static final long[] SEEDS = {0, 1, -1, 2, 7, 1L << 32, 1L << 33, 1L << 62, Long.MAX_VALUE, Long.MIN_VALUE,
        Long.MAX_VALUE - 1, Long.MIN_VALUE + 1, 6364136223846793005L, 123456789123456789L};
    private static final Edge EDGE = new Edge();

    private static int[] of(int... numbers) {
        return numbers;
    }

    private static void row(String calls, int[] got, int... want) {
        EDGE.is(calls + ": how many", got.length, want.length);
        for (int i = 0; i < got.length && i < want.length; i++) {
            EDGE.is(calls + " number " + i, got[i], want[i]);
        }
    }

    /** Refused in each state: with no LIFE, with one, with all that can be full. */
    private static void refusedAlways(String call, Edge.Ask ask, long want) {
        EDGE.refused(Edge::empty, call, ask, want);
        EDGE.refused(Edge::noLife, call, ask, want);
        EDGE.refused(Edge::five, call, ask, want);
        EDGE.refused(Edge::full, call, ask, want);
    }

    private static void refusedWithoutLife(String call, Edge.Ask ask, long want) {
        EDGE.refused(Edge::empty, call, ask, want);
        EDGE.refused(Edge::noLife, call, ask, want);
    }

    private static OtherSelves fresh() {
        return Due.at(Edge.FIVE, "y:g", "y:j");
    }

    private static void opening() {
        EDGE.sentence("Promise 12", "A BRANCH is closed (is false), opened: how many ACTS can be UNDONE");
        OtherSelves x = fresh();
        row("closed, opened", of(x.open(0, 2, false), x.fork(0, 3), x.open(0, 2, true), x.fork(0, 3), x.open(1, 0, false)),
            1, 2, 2, 3, 3);
        EDGE.sentence("Promise 12", "NONE: no such ones");
        for (int fork : Edge.outside(0, 1)) {
            refusedAlways("open(" + fork + ", 0, false)", y -> y.open(fork, 0, false), NONE);
            refusedAlways("open(" + fork + ", 0, true)", y -> y.open(fork, 0, true), NONE);
        }
        for (int branch : Edge.outside(0, 2)) {
            refusedAlways("open(0, " + branch + ", false)", y -> y.open(0, branch, false), NONE);
            refusedAlways("open(1, " + branch + ", true)", y -> y.open(1, branch, true), NONE);
        }
        refusedWithoutLife("open(0, 0, false)", y -> y.open(0, 0, false), NONE);
        refusedWithoutLife("open(0, 0, true)", y -> y.open(0, 0, true), NONE);
        EDGE.refused(Edge::leaf, "open(0, 0, false) of l", y -> y.open(0, 0, false), NONE);
        EDGE.sentence("Promise 12", "NONE: it is so");
        for (int branch = 0; branch < 3; branch++) {
            int b = branch;
            boolean closed = branch == 1;
            EDGE.refused(Edge::five, "open(0, " + b + ", true)", y -> y.open(0, b, true), NONE);
            EDGE.refused(Edge::five, "open(1, " + b + ", " + !closed + ")", y -> y.open(1, b, !closed), NONE);
            EDGE.refused(Edge::full, "open(1, " + b + ", " + !closed + ")", y -> y.open(1, b, !closed), NONE);
        }
        EDGE.sentence("Promise 12", "NONE: the last open one");
        for (int branch = 0; branch < 3; branch++) {
            int b = branch;
            EDGE.refused(() -> lastOpen(b), "open(0, " + b + ", false)", y -> y.open(0, b, false), NONE);
            EDGE.refused(() -> lastOpen(b), "open(1, " + b + ", false)", y -> y.open(1, b, false), NONE);
            OtherSelves y = lastOpen(b);
            EDGE.is("another one opened", y.open(0, (b + 1) % 3, true), 5);
            EDGE.is("then it may be closed", y.open(0, b, false), 6);
            EDGE.is("and now that one is the last", y.open(0, (b + 1) % 3, false), NONE);
        }
        OtherSelves z = Due.at("f(:l;:l)");
        row("of two", of(z.open(0, 1, false), z.open(0, 0, false), z.open(0, 1, true), z.open(0, 0, false), z.open(0, 1, false)),
            1, NONE, 2, 3, NONE);
    }

    private static OtherSelves lastOpen(int branch) {
        OtherSelves x = fresh();
        for (int other = 0; other < 3; other++) {
            if (other != branch) {
                x.open(0, other, false);
                x.open(1, other, false);
            }
        }
        return x;
    }

    private static void setting() {
        EDGE.sentence("Promise 13", "POLICY (what 0; 0 .. 3), RULE (1), LIKING (2; NONE or a TASTE), LAW (3; 0 .. 3)");
        int[] least = {0, NONE, NONE, 0};
        int[] most = {3, 1, 1, 3};
        for (int what = 0; what < 4; what++) {
            int a = what;
            for (int v = least[what]; v <= most[what]; v++) {
                OtherSelves x = fresh();
                int now = what == 1 || what == 2 ? NONE : 0;
                EDGE.is("set(" + what + ", " + v + ")", x.set(what, v), v == now ? NONE : 1);
                EDGE.is("it is so", x.count(7 + what), v);
                EDGE.is("set(" + what + ", " + v + ") twice: it is so", x.set(what, v), NONE);
                EDGE.is("acts", x.count(13), v == now ? 0 : 1);
                EDGE.is("set back", x.set(what, now), v == now ? NONE : 2);
            }
            for (int v : Edge.outside(least[what], most[what])) {
                refusedBoth("set(" + what + ", " + v + ")", y -> y.set(a, v), what, v);
            }
            int[] now = {3, NONE, NONE, 1};
            int[] nowFull = {3, 3, 2, 2};
            EDGE.sentence("Promise 13", "NONE: it is so");
            EDGE.refused(Edge::five, "set(" + what + ", " + now[what] + ")", y -> y.set(a, now[a]), NONE);
            EDGE.refused(Edge::full, "set(" + what + ", " + nowFull[what] + ")", y -> y.set(a, nowFull[a]), NONE);
            EDGE.sentence("Promise 13", "NONE: no such ones");
        }
        for (int what : Edge.outside(0, 3)) {
            for (int v : of(NONE, 0, 1, 2)) {
                refusedAlways("set(" + what + ", " + v + ")", x -> x.set(what, v), NONE);
            }
        }
        EDGE.refused(() -> Due.at("l"), "set(1, 0) without tastes", x -> x.set(1, 0), NONE);
        EDGE.refused(() -> Due.at("l"), "set(2, 0) without tastes", x -> x.set(2, 0), NONE);
        OtherSelves x = Edge.full();
        row("the sixth taste", of(x.set(1, 5), x.set(2, 5), x.set(1, 6), x.set(2, 6), x.count(8), x.count(9)),
            40, 40, NONE, NONE, 5, 5);
        EDGE.sentence("Promise 13", "NONE: no LIFE");
        for (int what = 0; what < 4; what++) {
            int a = what;
            for (int v = NONE; v < 4; v++) {
                int b = v;
                refusedWithoutLife("set(" + what + ", " + v + ")", y -> y.set(a, b), NONE);
            }
        }
    }

    private static void refusedBoth(String call, Edge.Ask ask, int what, int v) {
        EDGE.sentence("Promise 13", "NONE: no such ones");
        refusedWithoutLife(call, ask, NONE);
        EDGE.refused(Edge::five, call, ask, NONE);
        // With six TASTES there are a third and a fourth one.
        if (what == 0 || what == 3 || v < NONE || v > 5) {
            EDGE.refused(Edge::full, call, ask, NONE);
        }
    }

    private static int acted(OtherSelves x) {
        int bits = x.count(7) + 4 * x.count(10) + 16 * (x.count(8) + 1) + 256 * (x.count(9) + 1);
        for (int i = 0; i < 6; i++) {
            bits |= x.branch(i / 3, i % 3, 5) << 12 + i;
        }
        return bits;
    }

    /** One ACT of each sort after the other; each changes something. */
    private static int act(OtherSelves x, int i) {
        switch (i % 6) {
            case 0: return x.open(0, 1, i % 4 == 0 ? false : true);
            case 1: return x.set(0, (x.count(7) + 1) % 4);
            case 2: return x.set(1, x.count(8) == 1 ? NONE : x.count(8) + 1);
            case 3: return x.set(2, x.count(9) == 1 ? NONE : x.count(9) + 1);
            case 4: return x.set(3, (x.count(10) + 3) % 4);
            default: return x.open(1, 2, x.branch(1, 2, 5) == 0);
        }
    }

    private static void undoing() {
        EDGE.sentence("Terms 4", "ACTS: the latest (40 at most) can be UNDONE");
        for (int acts : of(0, 1, 2, 39, 40, 41, 45)) {
            OtherSelves x = fresh();
            int[] before = new int[acts];
            for (int i = 0; i < acts; i++) {
                before[i] = i >= acts - 3 || i == acts - 40 || i == acts - 41 ? acted(x) : NONE;
                EDGE.is("act " + i, act(x, i), Math.min(40, i + 1));
            }
            int kept = Math.min(40, acts);
            EDGE.is(acts + " acts", x.count(13), kept);
            for (int i = 1; i <= kept; i++) {
                EDGE.is("undo " + i + " of " + acts, x.undo(), kept - i);
                if (before[acts - i] != NONE) {
                    EDGE.is("as it was " + i + " acts ago", acted(x), before[acts - i]);
                }
            }
            int then = acted(x);
            EDGE.is("none more", x.undo(), NONE);
            EDGE.is("none more, asked twice", x.undo(), NONE);
            EDGE.is("it stays", acted(x), then);
            EDGE.is("acts again", x.set(0, 3 - x.count(7) % 2), 1);
        }
        EDGE.sentence("Promise 14", "The latest ACT is UNDONE: how many still can be. NONE: none");
        refusedWithoutLife("undo()", x -> x.undo(), NONE);
        EDGE.refused(Edge::leaf, "undo()", x -> x.undo(), NONE);
        EDGE.refused(ActEdgeTests::fresh, "undo()", x -> x.undo(), NONE);
        EDGE.refused(ActEdgeTests::undone, "undo() once more", x -> x.undo(), NONE);
        EDGE.refused(ActEdgeTests::calledAgain, "undo() behind a call", x -> x.undo(), NONE);
        OtherSelves x = fresh();
        x.open(0, 0, false);
        x.open(0, 0, false);
        x.set(0, 9);
        x.set(3, 0);
        EDGE.is("what was refused is no act", x.count(13), 1);
        EDGE.is("undo does not become an act", x.undo(), 0);
        EDGE.is("nothing left", x.undo(), NONE);
    }

    private static OtherSelves undone() {
        OtherSelves x = Edge.full();
        for (int i = 0; i < 40; i++) {
            x.undo();
        }
        return x;
    }

    private static OtherSelves calledAgain() {
        OtherSelves x = Edge.full();
        x.call(1);
        return x;
    }

    private static void undoOfLastOpen() {
        EDGE.sentence("Terms 4", "(a FORK keeps one open)");
        OtherSelves x = Due.at("f(:l;:l)");
        x.open(0, 0, false);
        x.open(0, 0, true);
        x.open(0, 1, false);
        row("undone one by one", of(x.undo(), x.branch(0, 1, 5), x.undo(), x.branch(0, 0, 5), x.open(0, 1, false), x.undo(),
            x.branch(0, 0, 5), x.branch(0, 1, 5)), 2, 1, 1, 0, NONE, 0, 1, 1);
    }

    // The document's draws once more, with whole numbers that never go round.
    private static final class Draws {
        private static final BigInteger ROUND = BigInteger.ONE.shiftLeft(64);
        private BigInteger x;

        Draws(long seed) {
            x = BigInteger.valueOf(seed).mod(ROUND);
        }

        int draw(int m) {
            x = x.multiply(new BigInteger("6364136223846793005")).add(new BigInteger("1442695040888963407")).mod(ROUND);
            return x.shiftRight(33).mod(BigInteger.valueOf(m)).intValue();
        }
    }

    private static final String CHANCE = "fk1(w9:l;w5:fk1(w2:l;w1:l;w7:l);w4:l)";

    /** The SELF of CHANCE; closed: whether the BRANCH of WEIGHT 5 is. */
    private static int byChance(Draws draws, boolean closed) {
        int first = draws.draw(closed ? 13 : 18);
        if (first < 9) {
            return 0;
        }
        if (closed || first >= 14) {
            return 4;
        }
        int second = draws.draw(10);
        return second < 2 ? 1 : second < 3 ? 2 : 3;
    }

    private static void births() {
        EDGE.sentence("Terms 4", "of KIND 1 a draw of all open WEIGHTS together (BRANCHES by numbers); x shifted right by 33, "
            + "without sign");
        for (long seed : SEEDS) {
            EDGE.asked(() -> Due.at(CHANCE), "town(1, " + seed + ", 0)", x -> x.town(1, seed, 0),
                byChance(new Draws(seed), false) == 0 ? 1 : 0);
            OtherSelves x = Due.at(CHANCE);
            EDGE.is("birthday(" + seed + ")", x.birthday(seed), byChance(new Draws(seed), false));
            EDGE.is("birthday(" + seed + "), asked twice", x.birthday(seed), byChance(new Draws(seed), false));
            x.open(0, 1, false);
            EDGE.is("birthday(" + seed + "), one closed", x.birthday(seed), byChance(new Draws(seed), true));
        }
        EDGE.sentence("Terms 4", "of KIND 0 by the POLICY, all alike: a draw of how many are open");
        for (long seed : SEEDS) {
            OtherSelves x = Due.at("f(:l;:l;:f(:l;:l;:l;:l))", "y:b=1?5;y:b");
            EDGE.is("the lowest", x.birthday(seed), 0);
            x.set(0, 2);
            EDGE.is("the highest", x.birthday(seed), 5);
            x.set(0, 1);
            x.open(0, 0, false);
            EDGE.is("the lowest open", x.birthday(seed), 1);
            x.set(0, 0);
            x.set(1, 0);
            EDGE.is("by the rule", x.birthday(seed), 1);
            x.open(0, 1, false);
            EDGE.is("by the rule twice", x.birthday(seed), 3);
            x.set(0, 3);
            Draws draws = new Draws(seed);
            draws.draw(1);
            EDGE.is("a draw of one too", x.birthday(seed), 2 + draws.draw(4));
            x.open(1, 2, false);
            draws = new Draws(seed);
            draws.draw(1);
            EDGE.is("a draw of three", x.birthday(seed), of(2, 3, 5)[draws.draw(3)]);
        }
        mixed();
        weightless();
    }

    private static void weightless() {
        EDGE.sentence("Terms 4", "of KIND 0, all alike: WEIGHTS do not count");
        for (long seed : SEEDS) {
            OtherSelves x = Due.at("f(w9:l;w1:l;w5:l)");
            x.set(0, 3);
            EDGE.is("one of three", x.birthday(seed), new Draws(seed).draw(3));
            x.open(0, 0, false);
            EDGE.is("one of two", x.birthday(seed), 1 + new Draws(seed).draw(2));
        }
    }

    private static void mixed() {
        EDGE.sentence("Terms 4", "by the POLICY there is no draw at a FORK of KIND 0; at one of KIND 1 there is, of one too");
        for (long seed : SEEDS) {
            OtherSelves x = Due.at("f(:fk1(w9:f(:fk1(w1:l;w2:l);:l);:l);:l)");
            Draws draws = new Draws(seed);
            EDGE.is("two draws", x.birthday(seed), draws.draw(10) == 9 ? 3 : draws.draw(3) == 0 ? 0 : 1);
            x.open(1, 1, false);
            draws = new Draws(seed);
            draws.draw(9);
            EDGE.is("the first draw has one choice", x.birthday(seed), draws.draw(3) == 0 ? 0 : 1);
        }
    }

    private static OtherSelves sixty() {
        OtherSelves x = Due.at("f(:l;:l)", "y:g");
        x.set(0, 3);
        for (int i = 0; i < 60; i++) {
            x.birthday(i);
        }
        return x;
    }

    private static void birthdays() {
        EDGE.sentence("Promise 40", "A BIRTHDAY: the SELF. NONE: no LIFE, there are 60");
        OtherSelves x = Due.at("f(:l;:l)");
        x.set(0, 3);
        for (int i = 0; i < 60; i++) {
            EDGE.is("birthday " + i, x.birthday(i), new Draws(i).draw(2));
            EDGE.is("how many", x.count(12), i + 1);
        }
        for (long seed : SEEDS) {
            EDGE.refused(ActEdgeTests::sixty, "birthday(" + seed + ") of sixty", y -> y.birthday(seed), NONE);
            EDGE.refused(Edge::full, "birthday(" + seed + ") of sixty", y -> y.birthday(seed), NONE);
            refusedWithoutLife("birthday(" + seed + ")", y -> y.birthday(seed), NONE);
            EDGE.is("of l", Due.at("l").birthday(seed), 0);
        }
        EDGE.is("taken back", x.take(), 59);
        EDGE.is("there is room for one", x.birthday(61), new Draws(61).draw(2));
        EDGE.is("for one alone", x.birthday(61), NONE);
        EDGE.sentence("Promise 41", "The SELF of a BIRTHDAY that was put by. NONE: no such one");
        OtherSelves y = sixty();
        for (int i = 0; i < 60; i++) {
            EDGE.is("born(" + i + ")", y.born(i), new Draws(i).draw(2));
            EDGE.is("born(" + i + "), asked twice", y.born(i), new Draws(i).draw(2));
        }
        for (int i : Edge.outside(0, 59)) {
            refusedAlways("born(" + i + ")", q -> q.born(i), NONE);
            EDGE.refused(ActEdgeTests::sixty, "born(" + i + ")", q -> q.born(i), NONE);
        }
        for (int i : Edge.outside(0, 0)) {
            EDGE.refused(Edge::five, "born(" + i + ") of one", q -> q.born(i), NONE);
            EDGE.refused(Edge::leaf, "born(" + i + ") of none", q -> q.born(i), NONE);
        }
        refusedWithoutLife("born(0)", q -> q.born(0), NONE);
        EDGE.refused(Edge::leaf, "born(0) of none", q -> q.born(0), NONE);
        EDGE.asked(Edge::five, "born(0)", q -> q.born(0), new Draws(2).draw(3) == 1 ? 1 : 0);
    }

    private static void taking() {
        EDGE.sentence("Promise 42", "The latest BIRTHDAY is taken back: how many there are. NONE: none");
        OtherSelves x = sixty();
        for (int i = 59; i >= 0; i--) {
            EDGE.is("take", x.take(), i);
            EDGE.is("it is gone", x.born(i), NONE);
            EDGE.is("those ahead of it stay", x.born(i - 1), i == 0 ? NONE : new Draws(i - 1).draw(2));
        }
        EDGE.is("none left", x.take(), NONE);
        EDGE.is("none left, asked twice", x.take(), NONE);
        EDGE.is("none", x.count(12), 0);
        refusedWithoutLife("take()", y -> y.take(), NONE);
        EDGE.refused(Edge::leaf, "take()", y -> y.take(), NONE);
        EDGE.refused(ActEdgeTests::calledAgain, "take() behind a call", y -> y.take(), NONE);
        OtherSelves y = sixty();
        y.undo();
        EDGE.is("a birthday is no act", y.undo() * 100 + y.count(12), -100 + 60);
    }

    private static void towns() {
        EDGE.sentence("Terms 4", "TOWN: of n (1 .. 99) BIRTHDAYS one behind the other by a seed how many are of a SELF");
        for (long seed : SEEDS) {
            for (int n : of(1, 2, 3, 50, 98, 99)) {
                int[] want = new int[5];
                Draws draws = new Draws(seed);
                for (int i = 0; i < n; i++) {
                    want[byChance(draws, false)]++;
                }
                OtherSelves x = Due.at(CHANCE);
                row("town(" + n + ", " + seed + ", ..)",
                    of(x.town(n, seed, 0), x.town(n, seed, 1), x.town(n, seed, 2), x.town(n, seed, 3), x.town(n, seed, 4)), want);
                EDGE.is("none is put by", x.count(12), 0);
            }
            EDGE.is("of l", Due.at("l").town(99, seed, 0), 99);
        }
        EDGE.is("by the policy all are one", fresh().town(99, 5, 0), 99);
        EDGE.is("and none another", fresh().town(99, 5, 4), 0);
        EDGE.sentence("Promise 43", "TOWN. NONE: no such SELF, out of bounds");
        for (int n : Edge.outside(1, 99)) {
            refusedAlways("town(" + n + ", 1, 0)", x -> x.town(n, 1, 0), NONE);
            EDGE.refused(Edge::leaf, "town(" + n + ", 1, 0) of l", x -> x.town(n, 1, 0), NONE);
        }
        for (int self : SELVES_OUTSIDE) {
            for (int n : of(1, 99)) {
                refusedAlways("town(" + n + ", 1, " + self + ")", x -> x.town(n, 1, self), NONE);
            }
        }
        for (int n : of(1, 99)) {
            refusedWithoutLife("town(" + n + ", 1, 0)", x -> x.town(n, 1, 0), NONE);
            EDGE.asked(Edge::leaf, "town(" + n + ", -1, 0) of l", x -> x.town(n, -1, 0), n);
            EDGE.asked(Edge::five, "town(" + n + ", least, 2), not there", x -> x.town(n, Long.MIN_VALUE, 2), 0);
            EDGE.asked(Edge::full, "town(" + n + ", most, 2), not there, with sixty", x -> x.town(n, Long.MAX_VALUE, 2), 0);
        }
    }

    private static OtherSelves imaged() {
        OtherSelves x = fresh();
        x.open(0, 2, false);
        x.image();
        return x;
    }

    private static void images() {
        EDGE.sentence("Promise 44", "An IMAGE (instead of the one ahead): how many SELVES are THERE. NONE: no LIFE");
        refusedWithoutLife("image()", x -> x.image(), NONE);
        EDGE.is("of l", Due.at("l").image(), 1);
        EDGE.is("of twelve", Due.at("f(:f(:l;:l;:l;:l);:f(:l;:l;:l;:l);:f(:l;:l;:l;:l))").image(), 12);
        OtherSelves x = fresh();
        EDGE.is("all", x.image(), 5);
        EDGE.is("asked twice", x.image(), 5);
        x.open(0, 1, false);
        EDGE.is("those there", x.image(), 2);
        row("acts stay", of(x.count(13), x.undo(), x.count(6)), 1, 0, 5);
        row("the latter image", of(x.back(), x.branch(0, 1, 5)), 2, 0);
        EDGE.sentence("Promise 45", "BACK: how many SELVES are THERE. NONE: no IMAGE");
        refusedWithoutLife("back()", y -> y.back(), NONE);
        EDGE.refused(Edge::leaf, "back() without an image", y -> y.back(), NONE);
        EDGE.refused(ActEdgeTests::fresh, "back() without an image", y -> y.back(), NONE);
        EDGE.refused(ActEdgeTests::calledAgain, "back() behind a call", y -> y.back(), NONE);
        EDGE.sentence("Terms 4", "An IMAGE keeps what is open, POLICY, RULE, LIKING, LAW; BACK: they are so again (no ACT can "
            + "be UNDONE then)");
        for (int acts : of(0, 1, 6, 12, 40, 50)) {
            OtherSelves y = imaged();
            int then = acted(y);
            for (int i = 0; i < acts; i++) {
                act(y, i);
            }
            EDGE.is("back behind " + acts + " acts", y.back(), 4);
            EDGE.is("so again", acted(y), then);
            EDGE.is("no act", y.count(13), 0);
            EDGE.is("none can be undone", y.undo(), NONE);
            EDGE.is("asked twice", y.back(), 4);
            EDGE.is("so still", acted(y), then);
        }
        OtherSelves y = Edge.full();
        EDGE.is("with all full", y.back(), 5);
        row("so again", of(y.count(7), y.count(8), y.count(9), y.count(10), y.count(11), y.count(12), y.count(13), y.count(5)),
            0, 3, 1, 0, 12, 60, 0, 240);
    }

    private static void leafActs() {
        EDGE.sentence("Terms 4", "ACTS of a LIFE that is a LEAF alone");
        OtherSelves x = Due.at("l", "y:g");
        row("told", of(x.set(0, 3), x.set(1, 0), x.set(2, 0), x.set(3, 3), x.worth(0), x.undo(), x.undo(), x.worth(0)),
            1, 2, 3, 4, 10, 3, 2, 60);
    }

    private static void counts() {
        EDGE.sentence("Promise 46", "0 LIVES .. 13 ACTS that can be UNDONE");
        int[] none = {0, NONE, 0, 0, 2, 3, 0, 0, NONE, NONE, 0, 0, 0, 0};
        int[] leaf = {1, 0, 1, 0, 2, 3, 1, 0, NONE, NONE, 0, 0, 0, 0};
        int[] five = {1, 0, 5, 2, 2, 5, 4, 3, NONE, NONE, 1, 1, 1, 3};
        int[] full = {3, 1, 5, 2, 6, 240, 4, 3, 3, 2, 2, 12, 60, 40};
        for (int what = 0; what < 14; what++) {
            int a = what;
            EDGE.asked(Edge::noLife, "count(" + what + ") without a life", x -> x.count(a), none[what]);
            EDGE.asked(Edge::leaf, "count(" + what + ") of l", x -> x.count(a), leaf[what]);
            EDGE.asked(Edge::five, "count(" + what + ")", x -> x.count(a), five[what]);
            EDGE.asked(Edge::full, "count(" + what + "), all full", x -> x.count(a), full[what]);
        }
        EDGE.sentence("Promise 46", "HIDDEN for others");
        for (int what : Edge.outside(0, 13)) {
            refusedAlways("count(" + what + ")", x -> x.count(what), HIDDEN);
        }
        EDGE.sentence("The constants", "NONE = -1; HIDDEN = -2000000000");
        EDGE.is("NONE", OtherSelves.NONE, -1);
        EDGE.is("HIDDEN", OtherSelves.HIDDEN, -2000000000);
        EDGE.is("the bounds of int stay apart", LEAST < HIDDEN && MOST > 0, true);
    }

    public static void main(String[] args) {
        opening();
        setting();
        undoing();
        undoOfLastOpen();
        births();
        birthdays();
        taking();
        towns();
        images();
        leafActs();
        counts();
        EDGE.close("ActEdgeTests");
    }
}
