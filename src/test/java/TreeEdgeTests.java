/** Part 2 of the Terms, and promises 6 to 11 and 15 to 22: each sentence that names a boundary case. */
public final class TreeEdgeTests {
    private static final int NONE = Edge.NONE;
    private static final int HIDDEN = Edge.HIDDEN;
    private static final int LEAST = Edge.LEAST;
    private static final int MOST = Edge.MOST;
    private static final int[] SELVES_OUTSIDE = Edge.outside(0, 4);
    private static final int[] FORKS_OUTSIDE = Edge.outside(0, 1);
    private static final int[] BRANCHES_OUTSIDE = Edge.outside(0, 2);
    private static final Edge EDGE = new Edge();

    private static OtherSelves five() {
        return Due.at(Edge.FIVE, "y:g", "y:j");
    }

    private static int[] of(int... numbers) {
        return numbers;
    }

    private static void row(String calls, int[] got, int... want) {
        EDGE.is(calls + ": how many", got.length, want.length);
        for (int i = 0; i < got.length && i < want.length; i++) {
            EDGE.is(calls + " number " + i, got[i], want[i]);
        }
    }

    /** Refused in each state: with no LIFE, with one, with all that can be full. */
    private static void refusedAlways(String call, Edge.Ask ask, long want) {
        EDGE.refused(Edge::empty, call, ask, want);
        EDGE.refused(Edge::noLife, call, ask, want);
        EDGE.refused(Edge::five, call, ask, want);
        EDGE.refused(Edge::full, call, ask, want);
    }

    private static void refusedWithoutLife(String call, Edge.Ask ask, long want) {
        EDGE.refused(Edge::empty, call, ask, want);
        EDGE.refused(Edge::noLife, call, ask, want);
    }

    private static void numbering() {
        EDGE.sentence("Terms 2", "SELVES are its LEAVES, FORKS its FORKS, both numbered from 0 as they stand in the TEXT");
        OtherSelves x = Due.at("fy1(:fy2(:lg1;:lg2);:lg3;:fy3(:fy4(:lg4;:lg5);:lg6))");
        for (int self = 0; self < 6; self++) {
            EDGE.is("goods of " + self, x.self(self, 0), self + 1);
        }
        for (int fork = 0; fork < 4; fork++) {
            EDGE.is("year of " + fork, x.fork(fork, 0), fork + 1);
        }
        row("forks ahead", of(x.fork(0, 4), x.fork(1, 4), x.fork(2, 4), x.fork(3, 4)), NONE, 0, 0, 2);
        row("selves behind", of(x.fork(0, 5), x.fork(1, 5), x.fork(2, 5), x.fork(3, 5)), 63, 3, 56, 24);
        row("behind branches", of(x.branch(0, 0, 6), x.branch(0, 1, 6), x.branch(0, 2, 6), x.branch(1, 0, 6), x.branch(1, 1, 6),
            x.branch(2, 0, 6), x.branch(2, 1, 6), x.branch(3, 0, 6), x.branch(3, 1, 6)), 101, 2, 102, 0, 1, 103, 5, 3, 4);
    }

    private static void has() {
        EDGE.sentence("Terms 2", "It HAS GOODS: those of its BRANCHES and of the LEAF together; JOY likewise; OWES; FACTS");
        String most = "f(g99j99o99x9:f(g99j99o99x8:f(g99j99o99x9:f(g99j99o99x0:f(g99j99o99x1:f(g99j99o99:lg99j99;:l);:l);:l);"
            + ":l);:l);:l)";
        OtherSelves x = Due.at(most);
        row("the most", of(x.self(0, 0), x.self(0, 1), x.self(0, 2), x.self(0, 6), x.self(0, 8)), 693, 693, 594, 771, 6);
        row("the one behind it", of(x.self(1, 0), x.self(1, 1), x.self(1, 2), x.self(1, 6), x.self(1, 8)),
            505, 545, 495, 771, 6);
        row("the last", of(x.self(6, 0), x.self(6, 1), x.self(6, 2), x.self(6, 6), x.self(6, 8)), 10, 50, 0, 0, 1);
        OtherSelves y = Due.at("f(g0:lg0j0;:l)");
        row("the least", of(y.self(0, 0), y.self(0, 1), y.self(0, 2), y.self(0, 6)), 0, 0, 0, 0);
        EDGE.is("the worth of the most", x.worth(0), 693 + 693 - 594);
    }

    private static void there() {
        EDGE.sentence("Terms 2", "A BRANCH is open at first; a SELF is THERE, if all of its WAY is open");
        OtherSelves x = Due.at("f(:f(:f(:l;:l);:l);:l)");
        EDGE.is("all open", x.count(6), 4);
        for (int fork = 0; fork < 3; fork++) {
            x.open(fork, 0, false);
            row("fork " + fork + " closed", of(x.self(0, 7), x.self(1, 7), x.self(2, 7), x.self(3, 7)),
                0, fork < 2 ? 0 : 1, fork < 1 ? 0 : 1, 1);
            x.open(fork, 0, true);
        }
        EDGE.is("all open again", x.count(6), 4);
        for (int fork = 0; fork < 3; fork++) {
            x.open(fork, 1, false);
        }
        row("the others closed", of(x.self(0, 7), x.self(1, 7), x.self(2, 7), x.self(3, 7)), 1, 0, 0, 0);
        EDGE.is("a leaf alone is there", Due.at("l").self(0, 7), 1);
    }

    private static void calling() {
        EDGE.sentence("Promise 6", "NONE: no such one");
        for (int life : Edge.outside(0, 0)) {
            EDGE.refused(Edge::five, "call(" + life + ")", x -> x.call(life), NONE);
            EDGE.refused(Edge::empty, "call(" + life + ")", x -> x.call(life), NONE);
        }
        for (int life : Edge.outside(0, 2)) {
            EDGE.refused(Edge::full, "call(" + life + ")", x -> x.call(life), NONE);
        }
        EDGE.refused(Edge::empty, "call(0)", x -> x.call(0), NONE);
        EDGE.refused(Edge::noLife, "call(0)", x -> x.call(0), NONE);
        EDGE.sentence("Promise 6", "A LIFE comes to the TABLE (all open, no ACT can be UNDONE; CLUES, BIRTHDAYS, the IMAGE "
            + "are gone; POLICY, RULE, LIKING, LAW stay): how many SELVES");
        int[] selves = {1, 5, 2};
        for (int life = 0; life < 3; life++) {
            OtherSelves x = Edge.full();
            EDGE.is("call(" + life + ")", x.call(life), selves[life]);
            row("counts", of(x.count(0), x.count(1), x.count(2), x.count(4), x.count(5), x.count(6), x.count(7), x.count(8),
                x.count(9), x.count(10), x.count(11), x.count(12), x.count(13)),
                3, life, selves[life], 6, 240, selves[life], 3, 3, 2, 2, 0, 0, 0);
            EDGE.is("no act", x.undo(), NONE);
            EDGE.is("no image", x.back(), NONE);
            EDGE.is("no birthday", x.take(), NONE);
            EDGE.is("the first clue", x.clue(0, 0, 0), 1);
            EDGE.is("asked twice", x.call(life), selves[life]);
            EDGE.is("no clue", x.count(11), 0);
        }
        OtherSelves x = Edge.full();
        x.call(0);
        x.call(1);
        EDGE.is("all open when it comes back", x.fork(1, 3), 3);
    }

    private static void selves() {
        EDGE.sentence("Promise 7", "Of a SELF: 0 GOODS .. 8 FORKS on its WAY. NoSuchElementException: no such ones");
        for (int self : SELVES_OUTSIDE) {
            for (int what : of(0, 7, 8, 9, -1)) {
                refusedAlways("self(" + self + ", " + what + ")", x -> Edge.self(x, self, what), Edge.THROWS);
            }
        }
        for (int what : Edge.outside(0, 8)) {
            refusedAlways("self(0, " + what + ")", x -> Edge.self(x, 0, what), Edge.THROWS);
            refusedAlways("self(4, " + what + ")", x -> Edge.self(x, 4, what), Edge.THROWS);
        }
        for (int what = 0; what <= 8; what++) {
            int i = what;
            refusedWithoutLife("self(0, " + what + ")", x -> Edge.self(x, 0, i), Edge.THROWS);
            EDGE.asked(Edge::five, "self(0, " + what + ")", x -> Edge.self(x, 0, i), of(15, 51, 2, 40, 0, 5, 1, 1, 1)[what]);
            EDGE.asked(Edge::five, "self(4, " + what + ")", x -> Edge.self(x, 4, i), of(8, 50, 0, 40, 0, 5, 1, 1, 1)[what]);
            EDGE.asked(Edge::five, "self(2, " + what + ")", x -> Edge.self(x, 2, i), of(43, 50, 1, 40, 1, 5, 6, 0, 2)[what]);
            EDGE.asked(Edge::leaf, "self(0, " + what + ") of l", x -> Edge.self(x, 0, i), of(10, 50, 0, 40, 0, 5, 0, 1, 0)[what]);
        }
        EDGE.refused(Edge::leaf, "self(1, 0) of l", x -> Edge.self(x, 1, 0), Edge.THROWS);
    }

    private static void ways() {
        EDGE.sentence("Promise 8", "Its WAY: the i-th: 10 times the FORK and the BRANCH. NONE: no such ones");
        int[][] want = {{0}, {1, 10}, {1, 11}, {1, 12}, {2}};
        for (int self = 0; self < 5; self++) {
            int a = self;
            for (int i = 0; i < want[self].length; i++) {
                int b = i;
                EDGE.asked(Edge::five, "way(" + self + ", " + i + ")", x -> x.way(a, b), want[self][i]);
            }
            for (int i : Edge.outside(0, want[self].length - 1)) {
                EDGE.refused(Edge::five, "way(" + self + ", " + i + ")", x -> x.way(a, i), NONE);
            }
        }
        for (int self : SELVES_OUTSIDE) {
            refusedAlways("way(" + self + ", 0)", x -> x.way(self, 0), NONE);
        }
        refusedWithoutLife("way(0, 0)", x -> x.way(0, 0), NONE);
        EDGE.refused(Edge::leaf, "way(0, 0) of l", x -> x.way(0, 0), NONE);
        OtherSelves x = Due.at("f(:f(:f(:f(:f(:f(:l;:l);:l);:l);:l);:l);:l)");
        row("six on a way", of(x.way(1, 0), x.way(1, 1), x.way(1, 2), x.way(1, 3), x.way(1, 4), x.way(1, 5), x.way(1, 6)),
            0, 10, 20, 30, 40, 51, NONE);
        String two = "f(:l;:l)";
        String four = "f(:" + two + ";:" + two + ")";
        OtherSelves y = Due.at("f(:f(:" + four + ";:" + four + ");:" + four + ")");
        row("the last of eleven forks", of(y.way(11, 0), y.way(11, 1), y.way(11, 2)), 1, 81, 101);
    }

    private static void forks() {
        EDGE.sentence("Promise 9", "0 YEAR, 1 KIND, 2 BRANCHES, 3 how many are open, 4 the FORK ahead of it (NONE), "
            + "5 SELVES behind it (bits). NONE: no such ones");
        int[][] want = {{10, 0, 3, 3, NONE, 31}, {15, 1, 3, 2, 0, 14}};
        for (int fork = 0; fork < 2; fork++) {
            int a = fork;
            for (int what = 0; what < 6; what++) {
                int b = what;
                EDGE.asked(Edge::five, "fork(" + fork + ", " + what + ")", x -> x.fork(a, b), want[fork][what]);
            }
            for (int what : Edge.outside(0, 5)) {
                refusedAlways("fork(" + fork + ", " + what + ")", x -> x.fork(a, what), NONE);
            }
        }
        for (int fork : FORKS_OUTSIDE) {
            for (int what : of(0, 4, 5)) {
                refusedAlways("fork(" + fork + ", " + what + ")", x -> x.fork(fork, what), NONE);
            }
        }
        for (int what = 0; what < 6; what++) {
            int b = what;
            refusedWithoutLife("fork(0, " + what + ")", x -> x.fork(0, b), NONE);
            EDGE.refused(Edge::leaf, "fork(0, " + what + ") of l", x -> x.fork(0, b), NONE);
        }
        String four = "f(:l;:l;:l;:l)";
        EDGE.is("twelve behind", Due.at("f(:" + four + ";:" + four + ";:" + four + ")").fork(0, 5), 4095);
        EDGE.is("four branches", Due.at(four).fork(0, 2), 4);
        EDGE.is("two branches", Due.at("f(:l;:l)").fork(0, 2), 2);
    }

    private static void branches() {
        EDGE.sentence("Promise 10", "0 WEIGHT, 1 GOODS, 2 JOY, 3 OWES, 4 FACT (NONE), 5 whether it is open, 6 what is behind "
            + "it: a SELF, or 100 and a FORK. NONE: no such ones");
        int[][] want = {{1, 5, 1, 2, 0, 1, 0}, {2, 3, 0, 0, 1, 1, 101}, {1, 0, 0, 0, 0, 1, 4},
            {1, 0, 0, 0, 2, 1, 1}, {3, 0, 0, 1, 2, 0, 2}, {2, 0, 0, 0, NONE, 1, 3}};
        for (int i = 0; i < 6; i++) {
            int fork = i / 3;
            int branch = i % 3;
            for (int what = 0; what < 7; what++) {
                int c = what;
                String call = "branch(" + fork + ", " + branch + ", " + what + ")";
                EDGE.asked(Edge::five, call, x -> x.branch(fork, branch, c), want[i][what]);
            }
            for (int what : Edge.outside(0, 6)) {
                String call = "branch(" + fork + ", " + branch + ", " + what + ")";
                EDGE.refused(Edge::five, call, x -> x.branch(fork, branch, what), NONE);
            }
        }
        for (int what : of(0, 5, 6)) {
            for (int branch : BRANCHES_OUTSIDE) {
                refusedAlways("branch(0, " + branch + ", " + what + ")", x -> x.branch(0, branch, what), NONE);
                refusedAlways("branch(1, " + branch + ", " + what + ")", x -> x.branch(1, branch, what), NONE);
            }
            for (int fork : FORKS_OUTSIDE) {
                refusedAlways("branch(" + fork + ", 0, " + what + ")", x -> x.branch(fork, 0, what), NONE);
            }
            refusedWithoutLife("branch(0, 0, " + what + ")", x -> x.branch(0, 0, what), NONE);
            EDGE.refused(Edge::leaf, "branch(0, 0, " + what + ") of l", x -> x.branch(0, 0, what), NONE);
        }
        // The third BRANCH of a FORK that has two alone, ahead of one that has four.
        OtherSelves x = Due.at("f(:f(:l;:l;:l;:l);:l)");
        row("as many as each has", of(x.branch(0, 1, 0), x.branch(0, 2, 0), x.branch(1, 3, 0), x.branch(1, 4, 0)),
            1, NONE, 1, NONE);
    }

    private static void parting() {
        EDGE.sentence("Promise 11", "The FORK where two PART (0), its YEAR (1). NONE: no such ones, alike");
        int[][] where = {{NONE, 0, 0, 0, 0}, {0, NONE, 1, 1, 0}, {0, 1, NONE, 1, 0}, {0, 1, 1, NONE, 0}, {0, 0, 0, 0, NONE}};
        for (int one = 0; one < 5; one++) {
            for (int other = 0; other < 5; other++) {
                int a = one;
                int b = other;
                int fork = where[one][other];
                String call = "part(" + one + ", " + other + ", ";
                EDGE.asked(Edge::five, call + "0)", x -> x.part(a, b, 0), fork);
                EDGE.asked(Edge::five, call + "1)", x -> x.part(a, b, 1), fork == NONE ? NONE : fork == 0 ? 10 : 15);
            }
        }
        for (int what : Edge.outside(0, 1)) {
            refusedAlways("part(1, 2, " + what + ")", x -> x.part(1, 2, what), NONE);
        }
        for (int self : SELVES_OUTSIDE) {
            refusedAlways("part(" + self + ", 0, 0)", x -> x.part(self, 0, 0), NONE);
            refusedAlways("part(0, " + self + ", 1)", x -> x.part(0, self, 1), NONE);
            refusedAlways("part(" + self + ", " + self + ", 0)", x -> x.part(self, self, 0), NONE);
        }
        refusedWithoutLife("part(0, 1, 0)", x -> x.part(0, 1, 0), NONE);
        EDGE.refused(Edge::leaf, "part(0, 1, 0) of l", x -> x.part(0, 1, 0), NONE);
        EDGE.refused(Edge::leaf, "part(0, 0, 0) of l", x -> x.part(0, 0, 0), NONE);
        EDGE.sentence("Terms 2", "Two SELVES PART at the last FORK on the WAYS of both");
        OtherSelves x = Due.at("fy1(:fy2(:fy3(:fy4(:fy5(:fy6(:l;:l);:l);:l);:l);:l);:l)");
        for (int other = 1; other < 7; other++) {
            EDGE.is("part(0, " + other + ", 0)", x.part(0, other, 0), 6 - other);
            EDGE.is("part(" + other + ", 0, 1)", x.part(other, 0, 1), 7 - other);
        }
    }

    private static void policies() {
        EDGE.sentence("Terms 2", "POLICY: 0 by the RULE (none at first: the lowest); 1 the lowest; 2 the highest; 3 all alike");
        int all = 1000000000;
        int[][] want = {{all, 0, 0, 0}, {all, 0, 0, 0}, {0, 0, 0, all}, {250000000, 250000000, 250000000, 250000000}};
        for (int policy = 0; policy < 4; policy++) {
            OtherSelves x = Due.at("f(:l;:l;:l;:l)");
            x.set(0, policy);
            row("policy " + policy, of(x.odds(0), x.odds(1), x.odds(2), x.odds(3)), want[policy]);
            x.open(0, policy == 2 ? 3 : 0, false);
            int third = all / 3;
            row("policy " + policy + ", one closed", of(x.odds(0), x.odds(1), x.odds(2), x.odds(3)),
                new int[][] {{0, all, 0, 0}, {0, all, 0, 0}, {0, 0, all, 0}, {0, third, third, third}}[policy]);
        }
        EDGE.sentence("Terms 2", "RULE: the greatest WORTH (of several the lowest)");
        row("the first of several", chosenBy("y:b=1?5;y:b=2?5;y:0"), 0, all, 0, 0);
        row("below 0", chosenBy("y:0-1-b"), all, 0, 0, 0);
        row("the least of all worths", chosenBy("y:b<3?0-1000*1000;y:0-999*1000"), 0, 0, 0, all);
        row("no clause holds: 0", chosenBy("y:b=0?0-1;y:b=3?0-1"), 0, all, 0, 0);
        EDGE.sentence("Terms 2", "letters of a BRANCH: g, j, o its own, y the YEAR, d 0, t how many are open, b its number, "
            + "w its WEIGHT");
        row("g", chosenBy("y:g"), 0, all, 0, 0);
        row("j", chosenBy("y:j"), 0, 0, all, 0);
        row("o", chosenBy("y:o"), 0, 0, 0, all);
        row("w", chosenBy("y:w"), 0, 0, all, 0);
        row("b", chosenBy("y:b"), 0, 0, 0, all);
        row("y", chosenBy("y:y=33&b=2?1"), 0, 0, all, 0);
        row("d", chosenBy("y:d=0&b=2?1"), 0, 0, all, 0);
        row("t", chosenBy("y:t=4&b=2?1"), 0, 0, all, 0);
        row("their own alone", chosenBy("y:g=9&b=1?2;y:g=0&j=9&b=2?1"), 0, all, 0, 0);
        OtherSelves x = Due.at(OWN, "y:t=3&b=2?1");
        x.set(1, 0);
        EDGE.is("t of four", x.odds(0), all);
        x.open(0, 3, false);
        EDGE.is("t of three", x.odds(2), all);
    }

    private static void lettersAnew() {
        EDGE.sentence("Terms 2", "letters of a BRANCH: d 0; of a SELF: b, w 0: whatever was reckoned ahead of it");
        OtherSelves x = Due.at("f(w9:ld1;w9:ld1)", "y:d=0&b=1?1", "y:b+w");
        x.set(1, 0);
        x.set(2, 1);
        for (int i = 0; i < 3; i++) {
            row("in turn", of(x.worth(0), x.odds(1), x.worth(1), x.worth(0), x.odds(0), x.mean(3)), 0, 1000000000, 0, 0, 0, 0);
        }
    }

    private static void oneOpen() {
        EDGE.sentence("Terms 2", "ODDS at each FORK, VALUE of a FORK: of one open BRANCH alone");
        for (int weight : of(1, 2, 9)) {
            OtherSelves x = Due.at("fk1(w" + weight + ":l;w3:lj99)");
            x.open(0, 1, false);
            row("of kind 1", of(x.odds(0), x.odds(1), x.value(0, NONE), x.advice(0)), 1000000000, 0, 6000, 0);
            OtherSelves y = Due.at("f(w" + weight + ":l;w3:lj99)");
            y.open(0, 1, false);
            for (int policy = 0; policy < 4; policy++) {
                y.set(0, policy);
                row("of kind 0", of(y.odds(0), y.odds(1), y.value(0, NONE), y.advice(0)), 1000000000, 0, 6000, 0);
            }
        }
    }

    private static final String OWN = "fy33(w4:lg99j99;w3g9:l;w9j9:l;w1o9:l)";

    private static int[] chosenBy(String rule) {
        OtherSelves x = Due.at(OWN, rule);
        x.set(1, 0);
        return of(x.odds(0), x.odds(1), x.odds(2), x.odds(3));
    }

    private static void odds() {
        EDGE.sentence("Terms 2", "ODDS: at each FORK: of KIND 1 parts times WEIGHT by all open WEIGHTS, cut; "
            + "all alike, parts by how many are open, cut");
        OtherSelves x = Due.at("fk1(w9:l;w9:fk1(w1:l;w9:fk1(w9:l;w7:fk1(w9:l;w7:fk1(w5:l;w9:fk1(w8:l;w9:l))))))");
        row("cut at each fork", of(x.odds(0), x.odds(1), x.odds(2), x.odds(3), x.odds(4), x.odds(5), x.odds(6)),
            500000000, 50000000, 253125000, 110742187, 30761718, 26056984, 29314108);
        OtherSelves y = Due.at("f(:f(:f(:l;:l;:l);:l;:l);:l;:l)");
        y.set(0, 3);
        row("all alike, cut at each fork", of(y.odds(0), y.odds(3), y.odds(5)), 37037037, 111111111, 333333333);
        OtherSelves z = Due.at("fk1(w1:l;w9:l;w9:l;w9:l)");
        row("of 28", of(z.odds(0), z.odds(3)), 35714285, 321428571);
        z.open(0, 3, false);
        row("of 19, one closed", of(z.odds(0), z.odds(2), z.odds(3)), 52631578, 473684210, 0);
        EDGE.sentence("Promise 15", "ODDS. NONE: no such SELF");
        for (int self : SELVES_OUTSIDE) {
            refusedAlways("odds(" + self + ")", q -> q.odds(self), NONE);
        }
        refusedWithoutLife("odds(0)", q -> q.odds(0), NONE);
        EDGE.refused(Edge::leaf, "odds(1) of l", q -> q.odds(1), NONE);
        EDGE.asked(Edge::leaf, "odds(0) of l", q -> q.odds(0), 1000000000);
        int[] want = {333333333, 111111111, 0, 222222222, 333333333};
        for (int self = 0; self < 5; self++) {
            int a = self;
            EDGE.asked(Edge::five, "odds(" + self + ")", q -> q.odds(a), want[self]);
        }
    }

    private static void means() {
        EDGE.sentence("Terms 2", "MEAN: ODDS times GOODS (0), JOY (1), OWES (2), WORTH (3), by 10 to the 9, cut (towards 0)");
        OtherSelves x = Due.at("f(:lg99j0;o3:lg99j99)", "y:0-1000*1000", "y:1000*1000", "y:0-j", "y:j=0?0-1;y:0");
        x.set(0, 3);
        row("half and half", of(x.mean(0), x.mean(1), x.mean(2), x.mean(3)), 99, 49, 1, (99 + 195) / 2);
        x.set(2, 0);
        EDGE.is("the least worth", x.mean(3), -1000000);
        x.set(2, 1);
        EDGE.is("the greatest worth", x.mean(3), 1000000);
        x.set(2, 2);
        EDGE.is("-49.5, cut towards 0", x.mean(3), -49);
        x.set(2, 3);
        EDGE.is("-0.5, cut towards 0", x.mean(3), 0);
        OtherSelves y = Due.at("f(:lg10;:lg10;:lg10)");
        y.set(0, 3);
        EDGE.is("what was cut of the odds is missing", y.mean(0), 9);
        EDGE.sentence("Promise 16", "MEAN (what 0 .. 3). HIDDEN: no LIFE, no such what");
        for (int what : Edge.outside(0, 3)) {
            refusedAlways("mean(" + what + ")", q -> q.mean(what), HIDDEN);
        }
        int[] want = {14, 41, 0, 54};
        for (int what = 0; what < 4; what++) {
            int a = what;
            refusedWithoutLife("mean(" + what + ")", q -> q.mean(a), HIDDEN);
            EDGE.asked(Edge::five, "mean(" + what + ")", q -> q.mean(a), want[what]);
            EDGE.asked(Edge::leaf, "mean(" + what + ") of l", q -> q.mean(a), of(10, 50, 0, 60)[what]);
        }
    }

    /** WORTH by one TASTE of a SELF that has GOODS 12, JOY 30, OWES 4, YEARS 77, is dead, of TEMPER 3. */
    private static void worthBy(String taste, int want) {
        OtherSelves x = Due.at("fy9(w7g2o4:lg10j30y77d1t3;:l)", taste);
        x.set(2, 0);
        EDGE.is(taste, x.worth(0), want);
        EDGE.is(taste + ", asked twice", x.worth(0), want);
    }

    private static void worths() {
        EDGE.sentence("Terms 2", "letters: g GOODS, j JOY, o OWES that it HAS, y YEARS, d whether it is DEAD, t TEMPER, b, w 0");
        String[] letters = {"g", "j", "o", "y", "d", "t", "b", "w"};
        int[] want = {12, 30, 4, 77, 1, 3, 0, 0};
        for (int i = 0; i < 8; i++) {
            worthBy("y:" + letters[i], want[i]);
        }
        EDGE.sentence("Terms 1", "Behind each sign numbers are within -1,000,000 .. 1,000,000");
        worthBy("y:1000*1000", 1000000);
        worthBy("y:1000*1000-1", 999999);
        worthBy("y:1000*1001", 1000000);
        worthBy("y:1000*1000+1", 1000000);
        worthBy("y:1000*1000+1-1", 999999);
        worthBy("y:999*1001+1", 1000000);
        worthBy("y:999*1001", 999999);
        worthBy("y:0-1000*1000", -1000000);
        worthBy("y:0-1000*1000-1", -1000000);
        worthBy("y:0-1000*1000-1+1", -999999);
        worthBy("y:0-999*1001", -999999);
        worthBy("y:[0-9999]*9999", -1000000);
        worthBy("y:9999*9999*9999*9999", 1000000);
        worthBy("y:[0-9999*9999]*[9999*9999]", -1000000);
        worthBy("y:[0-9999*9999]*[0-9999*9999]", 1000000);
        worthBy("y:9999*9999/1000", 1000);
        worthBy("y:[0-9999*9999]-9999*9999+1000*1000", 0);
        worthBy("y:9999*9999=1000*1000?1;y:2", 1);
        EDGE.sentence("Terms 1", "/ cuts towards 0, by 0 gives 0");
        worthBy("y:7/2", 3);
        worthBy("y:[0-7]/2", -3);
        worthBy("y:7/[0-2]", -3);
        worthBy("y:[0-7]/[0-2]", 3);
        worthBy("y:1/2", 0);
        worthBy("y:[0-1]/2", 0);
        worthBy("y:7/0", 0);
        worthBy("y:[0-7]/0", 0);
        worthBy("y:0/0", 0);
        worthBy("y:5+7/b*3", 5);
        worthBy("y:9/9999", 0);
        EDGE.sentence("Terms 1", "SUM, TERM: from left to right, * and / ahead of + and -");
        worthBy("y:1+2*3", 7);
        worthBy("y:10-3-2", 5);
        worthBy("y:10-3+2", 9);
        worthBy("y:100/10/2", 5);
        worthBy("y:7/2*2", 6);
        worthBy("y:2*7/2", 7);
        worthBy("y:[1+2]*3", 9);
        worthBy("y:10-[3-2]", 9);
        worthBy("y:2-3", -1);
    }

    private static void conditions() {
        EDGE.sentence("Terms 1", "SUM, one of = < >, SUM: at the edge");
        worthBy("y:g=12?1;y:2", 1);
        worthBy("y:g=11?1;y:2", 2);
        worthBy("y:g<12?1;y:2", 2);
        worthBy("y:g<13?1;y:2", 1);
        worthBy("y:g>12?1;y:2", 2);
        worthBy("y:g>11?1;y:2", 1);
        worthBy("y:0-1<0?1;y:2", 1);
        EDGE.sentence("Terms 1", "CONDITION: TRUTHS with | between; TRUTH: UNITS with & between; UNIT: ! UNIT, ( CONDITION )");
        String yes = "1=1";
        String no = "1=0";
        worthBy("y:" + yes + "|" + no + "&" + no + "?1;y:2", 1);
        worthBy("y:(" + yes + "|" + no + ")&" + no + "?1;y:2", 2);
        worthBy("y:" + no + "&" + no + "|" + yes + "?1;y:2", 1);
        worthBy("y:" + no + "|" + no + "?1;y:2", 2);
        worthBy("y:" + yes + "&" + yes + "?1;y:2", 1);
        worthBy("y:" + yes + "&" + no + "?1;y:2", 2);
        worthBy("y:!" + no + "?1;y:2", 1);
        worthBy("y:!" + yes + "?1;y:2", 2);
        worthBy("y:!!" + yes + "?1;y:2", 1);
        worthBy("y:!" + yes + "|" + yes + "?1;y:2", 1);
        worthBy("y:!(" + yes + "|" + yes + ")?1;y:2", 2);
        worthBy("y:!" + no + "&" + no + "?1;y:2", 2);
        EDGE.sentence("Terms 1", "WORTH: the SUM of the first CLAUSE whose CONDITION holds (or has none), 0 without");
        worthBy("y:1=1?5;y:1=1?6", 5);
        worthBy("y:1=0?5;y:1=1?6;y:7", 6);
        worthBy("y:1=0?5;y:1=0?6;y:7", 7);
        worthBy("y:5;y:6", 5);
        worthBy("y:1=0?5", 0);
        worthBy("y:1=0?5;y:1=0?6", 0);
        worthBy("y:1=1?0;y:6", 0);
        EDGE.sentence("Promise 17", "WORTH of a SELF by the LIKING. HIDDEN: no such one");
        for (int self : SELVES_OUTSIDE) {
            refusedAlways("worth(" + self + ")", x -> x.worth(self), HIDDEN);
        }
        refusedWithoutLife("worth(0)", x -> x.worth(0), HIDDEN);
        EDGE.refused(Edge::leaf, "worth(1) of l", x -> x.worth(1), HIDDEN);
        EDGE.asked(Edge::leaf, "worth(0) of l", x -> x.worth(0), 60);
        for (int self = 0; self < 5; self++) {
            int a = self;
            EDGE.asked(Edge::five, "worth(" + self + ")", x -> x.worth(a), of(64, 83, 92, 22, 58)[self]);
            EDGE.asked(Edge::full, "worth(" + self + "), less goods", x -> x.worth(a), of(-15, -33, -43, -13, -8)[self]);
        }
        EDGE.sentence("Terms 2", "LIKING (none at first: JOY and GOODS less OWES)");
        EDGE.is("below 0", Due.at("f(o99:lg0j1;:l)").worth(0), -98);
    }

    private static void values() {
        EDGE.sentence("Terms 2", "VALUE of a LEAF: 100 times that; of a FORK: the greatest behind an open BRANCH; "
            + "of KIND 1: VALUES times WEIGHTS of the open ones, by these WEIGHTS together, cut (towards 0)");
        OtherSelves x = Due.at("f(:f(:f(:f(:f(:fk1(w9:l;w8:lj51);:l);:l);:l);:l);:l)", "y:1000*1000", "y:0-1000*1000",
            "y:j=51?1;y:0", "y:j=51?0-1;y:0", "y:j=51?0-1;y:0-9");
        row("kind 1", of(x.value(5, NONE), x.value(0, NONE)), (9 * 6000 + 8 * 6100) / 17, 6047);
        x.set(2, 0);
        row("the greatest worth", of(x.value(5, NONE), x.value(0, NONE), x.value(0, 1)), 100000000, 100000000, 100000000);
        x.set(2, 1);
        row("the least worth", of(x.value(5, NONE), x.value(0, NONE), x.value(0, 1)), -100000000, -100000000, -100000000);
        x.set(2, 2);
        EDGE.is("800 by 17, cut", x.value(5, NONE), 47);
        x.set(2, 3);
        EDGE.is("-800 by 17, cut towards 0", x.value(5, NONE), -47);
        EDGE.is("0 is greater", x.value(0, NONE), 0);
        x.open(4, 1, false);
        EDGE.is("what is closed does not count", x.value(4, NONE), -47);
        EDGE.is("behind it, closed or not", x.value(4, 1), 0);
        x.open(5, 0, false);
        EDGE.is("the open weights alone", x.value(5, NONE), -100);
        EDGE.is("behind a branch with a fork", x.value(4, 0), -100);
        EDGE.sentence("Promise 18", "VALUE of a FORK (branch NONE), behind a BRANCH. HIDDEN: no such ones");
        for (int fork : FORKS_OUTSIDE) {
            refusedAlways("value(" + fork + ", NONE)", q -> q.value(fork, NONE), HIDDEN);
            refusedAlways("value(" + fork + ", 0)", q -> q.value(fork, 0), HIDDEN);
        }
        for (int branch : of(LEAST, LEAST + 1, -3, -2, 3, 4, 35, MOST - 1, MOST)) {
            refusedAlways("value(0, " + branch + ")", q -> q.value(0, branch), HIDDEN);
            refusedAlways("value(1, " + branch + ")", q -> q.value(1, branch), HIDDEN);
        }
        for (int branch = NONE; branch < 3; branch++) {
            int b = branch;
            refusedWithoutLife("value(0, " + branch + ")", q -> q.value(0, b), HIDDEN);
            EDGE.refused(Edge::leaf, "value(0, " + branch + ") of l", q -> q.value(0, b), HIDDEN);
            EDGE.asked(Edge::five, "value(0, " + branch + ")", q -> q.value(0, b), of(6400, 6400, 4233, 5800)[branch + 1]);
            EDGE.asked(Edge::five, "value(1, " + branch + ")", q -> q.value(1, b), of(4233, 8300, 9200, 2200)[branch + 1]);
        }
    }

    private static void advice() {
        EDGE.sentence("Terms 2", "ADVICE: the open BRANCH with the greatest VALUE behind it (of several the lowest; of both KINDS)");
        OtherSelves x = Due.at("fk1(w9:lj1;w1:lj3;w1:lj3;:lj2)", "y:0-1000*1000");
        EDGE.is("of several the lowest, of kind 1", x.advice(0), 1);
        x.open(0, 1, false);
        EDGE.is("open", x.advice(0), 2);
        x.open(0, 2, false);
        EDGE.is("open ones alone", x.advice(0), 3);
        x.open(0, 3, false);
        EDGE.is("the only open one", x.advice(0), 0);
        x.open(0, 3, true);
        x.set(2, 0);
        EDGE.is("of several below 0 the lowest", x.advice(0), 0);
        x.open(0, 0, false);
        EDGE.is("of one below 0", x.advice(0), 3);
        EDGE.sentence("Promise 19", "ADVICE. NONE: no such FORK");
        for (int fork : FORKS_OUTSIDE) {
            refusedAlways("advice(" + fork + ")", q -> q.advice(fork), NONE);
        }
        refusedWithoutLife("advice(0)", q -> q.advice(0), NONE);
        EDGE.refused(Edge::leaf, "advice(0) of l", q -> q.advice(0), NONE);
        EDGE.asked(Edge::five, "advice(0)", q -> q.advice(0), 0);
        EDGE.asked(Edge::five, "advice(1)", q -> q.advice(1), 0);
    }

    private static void regrets() {
        EDGE.sentence("Terms 2", "REGRET: of KIND 0 the VALUE of the FORK less that behind its BRANCH (open or not; 0 if that "
            + "is below 0); of KIND 1: 0");
        OtherSelves x = Due.at("f(:lj9;:lj8;:lj7)", "y:j=9?1000*1000;y:0-1000*1000");
        row("all open", of(x.regret(0, 0), x.regret(1, 0), x.regret(2, 0)), 0, 100, 200);
        x.open(0, 0, false);
        row("behind a closed one more: 0", of(x.regret(0, 0), x.regret(1, 0), x.regret(2, 0)), 0, 0, 100);
        x.open(0, 1, false);
        row("one is open", of(x.regret(0, 0), x.regret(1, 0), x.regret(2, 0)), 0, 0, 0);
        x.undo();
        x.undo();
        x.set(2, 0);
        row("the greatest regret", of(x.regret(0, 0), x.regret(1, 0)), 0, 200000000);
        row("of kind 1", of(Due.at("fk1(:lj9;:lj8)").regret(1, 0), Due.at("fk1(:lj9;:lj8)").regret(0, 0)), 0, 0);
        EDGE.sentence("Promise 20", "REGRET. NONE: no such ones, not on its WAY");
        for (int self : SELVES_OUTSIDE) {
            refusedAlways("regret(" + self + ", 0)", q -> q.regret(self, 0), NONE);
        }
        for (int fork : FORKS_OUTSIDE) {
            refusedAlways("regret(1, " + fork + ")", q -> q.regret(1, fork), NONE);
        }
        refusedWithoutLife("regret(0, 0)", q -> q.regret(0, 0), NONE);
        EDGE.refused(Edge::leaf, "regret(0, 0) of l", q -> q.regret(0, 0), NONE);
        EDGE.refused(Edge::five, "regret(0, 1), not on its way", q -> q.regret(0, 1), NONE);
        EDGE.refused(Edge::five, "regret(4, 1), not on its way", q -> q.regret(4, 1), NONE);
        EDGE.refused(Edge::full, "regret(4, 1), not on its way", q -> q.regret(4, 1), NONE);
        int[] want = {0, 2167, 2167, 2167, 600};
        for (int self = 0; self < 5; self++) {
            int a = self;
            EDGE.asked(Edge::five, "regret(" + self + ", 0)", q -> q.regret(a, 0), want[self]);
            EDGE.asked(Edge::five, "regret(" + self + ", 1)", q -> q.regret(a, 1), self == 0 || self == 4 ? NONE : 0);
        }
    }

    private static void sores() {
        EDGE.sentence("Terms 2", "SORE: the FORK with the greatest REGRET (of several the lowest); all REGRETS of its WAY together");
        OtherSelves x = Due.at("f(:lj9;:f(:lj8;:fk1(:f(:lj7;:lj6);:lj99)))", "y:j=9|j=8|j=7?1000*1000;y:0-1000*1000",
            "y:j>6&j<10?100;y:0");
        row("the last way", of(x.sore(3, 0), x.sore(3, 1)), 3, 100);
        x.set(2, 0);
        row("great ones", of(x.sore(3, 0), x.sore(3, 1)), 3, 300000000);
        x.set(2, 1);
        row("the greatest, not the first", of(x.sore(3, 0), x.sore(3, 1)), 3, 15000);
        row("regrets of 0: the lowest", of(x.sore(0, 0), x.sore(0, 1)), 0, 0);
        row("of kind 1 none", of(x.sore(4, 0), x.sore(4, 1)), 1, 5000);
        OtherSelves z = Due.at("f(:lj9;:f(:f(:lj5;:lj4);:lj8))");
        row("the greatest in the middle", of(z.sore(2, 0), z.sore(2, 1), z.sore(1, 0), z.sore(1, 1)), 1, 500, 1, 400);
        OtherSelves w = Due.at("f(:lj9;:f(:f(:lj5;:lj5);:lj7);:lj7)");
        row("alike at two forks: the lowest", of(w.sore(1, 0), w.sore(1, 1), w.sore(4, 0), w.sore(4, 1)), 0, 400, 0, 200);
        OtherSelves y = Due.at("f(:lj1;:f(:lj1;:f(:lj1;:f(:lj1;:f(:lj1;:f(:lj1;:lj0))))))",
            "y:j=1?1000*1000;y:0-1000*1000");
        y.set(2, 0);
        row("six forks, one regret", of(y.sore(6, 0), y.sore(6, 1)), 5, 200000000);
        for (int fork = 0; fork < 6; fork++) {
            y.open(fork, fork == 0 ? 1 : 0, false);
        }
        row("the first open alone", of(y.sore(6, 0), y.sore(6, 1)), 0, 200000000);
        EDGE.sentence("Promise 21", "SORE: the FORK (0; NONE: no FORK on its WAY), all together (1). HIDDEN: no such ones");
        EDGE.asked(Edge::leaf, "sore(0, 0) of l", q -> q.sore(0, 0), NONE);
        EDGE.asked(Edge::leaf, "sore(0, 1) of l", q -> q.sore(0, 1), 0);
        for (int self : SELVES_OUTSIDE) {
            refusedAlways("sore(" + self + ", 0)", q -> q.sore(self, 0), HIDDEN);
            refusedAlways("sore(" + self + ", 1)", q -> q.sore(self, 1), HIDDEN);
        }
        for (int what : Edge.outside(0, 1)) {
            refusedAlways("sore(0, " + what + ")", q -> q.sore(0, what), HIDDEN);
            EDGE.refused(Edge::leaf, "sore(0, " + what + ") of l", q -> q.sore(0, what), HIDDEN);
        }
        refusedWithoutLife("sore(0, 0)", q -> q.sore(0, 0), HIDDEN);
        refusedWithoutLife("sore(0, 1)", q -> q.sore(0, 1), HIDDEN);
        int[] together = {0, 2167, 2167, 2167, 600};
        for (int self = 0; self < 5; self++) {
            int a = self;
            EDGE.asked(Edge::five, "sore(" + self + ", 0)", q -> q.sore(a, 0), 0);
            EDGE.asked(Edge::five, "sore(" + self + ", 1)", q -> q.sore(a, 1), together[self]);
        }
    }

    private static void apologies() {
        EDGE.sentence("Terms 2", "APOLOGY: at the FORK where they PART the VALUE behind the one's BRANCH less that behind "
            + "the other's");
        OtherSelves x = Due.at("f(:lj9;:f(:lj8;:lj7))", "y:j=9?1000*1000;y:0-1000*1000");
        row("at the first fork", of(x.apology(0, 1), x.apology(0, 2), x.apology(1, 0), x.apology(2, 0)), 100, 100, -100, -100);
        row("at the second", of(x.apology(1, 2), x.apology(2, 1)), 100, -100);
        x.open(1, 0, false);
        row("a closed one", of(x.apology(0, 1), x.apology(0, 2), x.apology(1, 2)), 200, 200, 100);
        x.set(2, 0);
        row("the greatest, the least", of(x.apology(0, 1), x.apology(1, 0), x.apology(1, 2)), 200000000, -200000000, 0);
        EDGE.sentence("Promise 22", "APOLOGY. HIDDEN: no such ones, alike");
        for (int self : SELVES_OUTSIDE) {
            refusedAlways("apology(" + self + ", 0)", q -> q.apology(self, 0), HIDDEN);
            refusedAlways("apology(0, " + self + ")", q -> q.apology(0, self), HIDDEN);
            refusedAlways("apology(" + self + ", " + self + ")", q -> q.apology(self, self), HIDDEN);
        }
        for (int self = 0; self < 5; self++) {
            int a = self;
            refusedAlways("apology(" + self + ", " + self + ")", q -> q.apology(a, a), HIDDEN);
        }
        refusedWithoutLife("apology(0, 1)", q -> q.apology(0, 1), HIDDEN);
        EDGE.refused(Edge::leaf, "apology(0, 0) of l", q -> q.apology(0, 0), HIDDEN);
        EDGE.refused(Edge::leaf, "apology(0, 1) of l", q -> q.apology(0, 1), HIDDEN);
        EDGE.asked(Edge::five, "apology(0, 4)", q -> q.apology(0, 4), 600);
        EDGE.asked(Edge::five, "apology(4, 0)", q -> q.apology(4, 0), -600);
        EDGE.asked(Edge::five, "apology(1, 2)", q -> q.apology(1, 2), -900);
    }

    public static void main(String[] args) {
        numbering();
        has();
        there();
        calling();
        selves();
        ways();
        forks();
        branches();
        parting();
        policies();
        lettersAnew();
        odds();
        oneOpen();
        means();
        worths();
        conditions();
        values();
        advice();
        regrets();
        sores();
        apologies();
        EDGE.close("TreeEdgeTests");
    }
}
