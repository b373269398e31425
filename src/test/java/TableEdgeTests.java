/** Part 3 of the Terms, and promises 23 to 39: each sentence that names a boundary case, by a test of its own. */
public final class TableEdgeTests {
    private static final int NONE = Edge.NONE;
    private static final int HIDDEN = Edge.HIDDEN;
    private static final int[] SELVES_OUTSIDE = Edge.outside(0, 4);
    private static final int[] POTS_OUTSIDE = Edge.outside(0, 9999);
    private static final Edge EDGE = new Edge();
    private static final String TWELVE = "f(:f(:l;:l;:l;:l);:f(:l;:l;:l;:l);:f(:l;:l;:l;:l))";
    // SELF 0 has no FACT, each other one a FACT of its own.
    private static final String TEN_FACTS = "f(:l;x0:l;x1:l;:f(x2:l;x3:l;x4:l;:f(x5:l;x6:l;x7:l;:f(x8:l;x9:l))))";
    private static final String GREAT = "y:j=9?1000*1000;y:0-1000*1000";

    private static int[] of(int... numbers) {
        return numbers;
    }

    private static void row(String calls, int[] got, int... want) {
        EDGE.is(calls + ": how many", got.length, want.length);
        for (int i = 0; i < got.length && i < want.length; i++) {
            EDGE.is(calls + " number " + i, got[i], want[i]);
        }
    }

    /** Refused in each state: with no LIFE, with one, with all that can be full. */
    private static void refusedAlways(String call, Edge.Ask ask, long want) {
        EDGE.refused(Edge::empty, call, ask, want);
        EDGE.refused(Edge::noLife, call, ask, want);
        EDGE.refused(Edge::five, call, ask, want);
        EDGE.refused(Edge::full, call, ask, want);
    }

    private static void refusedWithoutLife(String call, Edge.Ask ask, long want) {
        EDGE.refused(Edge::empty, call, ask, want);
        EDGE.refused(Edge::noLife, call, ask, want);
    }

    private static int[] shares(OtherSelves x, int pot) {
        int[] shares = new int[x.count(2)];
        for (int self = 0; self < shares.length; self++) {
            shares[self] = x.share(self, pot);
        }
        return shares;
    }

    private static void sharesOfAPot() {
        EDGE.sentence("Terms 3", "each has POT times its WEIGHT by all, cut; of what is left the lowest have one each");
        OtherSelves x = Due.at("f(:l;:l;:l)");
        row("a pot of 0", shares(x, 0), 0, 0, 0);
        row("a pot of 1", shares(x, 1), 1, 0, 0);
        row("a pot of 2", shares(x, 2), 1, 1, 0);
        row("a pot of 3", shares(x, 3), 1, 1, 1);
        row("a pot of 4", shares(x, 4), 2, 1, 1);
        row("a pot of 9998", shares(x, 9998), 3333, 3333, 3332);
        row("a pot of 9999", shares(x, 9999), 3333, 3333, 3333);
        EDGE.sentence("Terms 3", "(Those THERE.) SHARES");
        x.open(0, 0, false);
        row("the first not there", shares(x, 3), NONE, 2, 1);
        x.open(0, 1, false);
        row("one alone there", shares(x, 9999), NONE, NONE, 9999);
        EDGE.sentence("Terms 3", "the lowest with a WEIGHT have one each (a DEAD one: 0, if the LAW has no 2)");
        int[][] want = {{0, 1, 1, 0}, {0, 1, 1, 0}, {1, 1, 0, 0}, {1, 1, 0, 0}};
        for (int law = 0; law < 4; law++) {
            OtherSelves y = Due.at("f(:ld1;:l;:l;:l)");
            y.set(3, law);
            row("law " + law, shares(y, 2), want[law]);
            EDGE.is("law " + law + ", the dead one of 9999", y.share(0, 9999), law < 2 ? 0 : 2500);
        }
        EDGE.sentence("Terms 3", "WEIGHTS of 1 and REGRETS together by 100, cut");
        row("99 of regret: 1", shares(Due.at("f(:fk1(w6:lj51;w1:lj52);:fk1(w9:l;w2:l;w2:lj51))"), 50), 10, 10, 10, 10, 10);
        EDGE.is("it is 99", Due.at("f(:fk1(w6:lj51;w1:lj52);:fk1(w9:l;w2:l;w2:lj51))").sore(2, 1), 99);
        row("100 of regret: 2", shares(Due.at("f(:fk1(w6:lj51;w1:lj52);:fk1(w6:l;w1:lj51))"), 6), 1, 1, 2, 2);
        EDGE.is("it is 100", Due.at("f(:fk1(w6:lj51;w1:lj52);:fk1(w6:l;w1:lj51))").sore(2, 1), 100);
        row("of twelve", shares(Due.at(TWELVE), 9999), 834, 834, 834, 833, 833, 833, 833, 833, 833, 833, 833, 833);
        OtherSelves z = Due.at("f(:lj9;:lj8)", GREAT);
        z.set(2, 0);
        row("the greatest regret", shares(z, 9999), 1, 9998);
        row("a pot of 1 with it", shares(z, 1), 1, 0);
    }

    private static void share() {
        EDGE.sentence("Promise 23", "SHARE of a SELF. NONE: no such one, not THERE, out of bounds, all WEIGHTS are 0");
        for (int self : SELVES_OUTSIDE) {
            refusedAlways("share(" + self + ", 100)", x -> x.share(self, 100), NONE);
            refusedAlways("share(" + self + ", 0)", x -> x.share(self, 0), NONE);
        }
        for (int pot : POTS_OUTSIDE) {
            refusedAlways("share(0, " + pot + ")", x -> x.share(0, pot), NONE);
            refusedAlways("share(4, " + pot + ")", x -> x.share(4, pot), NONE);
        }
        for (int pot : of(0, 1, 100, 9999)) {
            refusedWithoutLife("share(0, " + pot + ")", x -> x.share(0, pot), NONE);
            EDGE.refused(Edge::five, "share(2, " + pot + "), not there", x -> x.share(2, pot), NONE);
            EDGE.refused(Edge::full, "share(2, " + pot + "), not there", x -> x.share(2, pot), NONE);
            EDGE.asked(Edge::leaf, "share(0, " + pot + ") of l", x -> x.share(0, pot), pot);
            EDGE.refused(TableEdgeTests::dead, "share(0, " + pot + "), all weights 0", x -> x.share(0, pot), NONE);
            EDGE.refused(TableEdgeTests::deadThere, "share(0, " + pot + "), all weights 0", x -> x.share(0, pot), NONE);
        }
        int[] want = {2, 42, NONE, 42, 13};
        for (int self = 0; self < 5; self++) {
            int a = self;
            EDGE.asked(Edge::five, "share(" + self + ", 99)", x -> x.share(a, 99), want[self]);
        }
        OtherSelves x = deadThere();
        x.set(3, 2);
        EDGE.is("the dead one by law 2", x.share(0, 7), 7);
        x.set(3, 1);
        EDGE.is("by law 1 not", x.share(0, 7), NONE);
        x.open(0, 1, true);
        EDGE.is("beside one who lives", x.share(0, 7), 0);
    }

    private static OtherSelves dead() {
        return Due.at("ld1", "y:g", "y:j", "y:t");
    }

    /** Two SELVES, of whom the DEAD one alone is THERE. */
    private static OtherSelves deadThere() {
        OtherSelves x = Due.at("f(:ld1;:l)", "y:g", "y:j", "y:t");
        x.open(0, 1, false);
        return x;
    }

    private static void demand() {
        EDGE.sentence("Terms 3", "DEMAND: GOODS that it HAS times 10 less TEMPER, by 10, cut (a DEAD one likewise 0)");
        for (int temper = 0; temper < 10; temper++) {
            for (int goods : of(0, 1, 9, 10, 11, 99)) {
                OtherSelves x = Due.at("lg" + goods + "t" + temper);
                EDGE.is("goods " + goods + ", temper " + temper, x.demand(0), goods * (10 - temper) / 10);
            }
        }
        EDGE.is("goods of the way too", Due.at("f(g9:f(g9:lg9t9;:l);:l)").demand(0), 2);
        EDGE.is("the most", Due.at("f(g99:f(g99:f(g99:f(g99:f(g99:f(g99:lg99t0;:l);:l);:l);:l);:l);:l)").demand(0), 693);
        for (int law = 0; law < 4; law++) {
            OtherSelves x = Due.at("lg99t0d1");
            x.set(3, law);
            EDGE.is("the dead by law " + law, x.demand(0), law < 2 ? 0 : 99);
        }
        EDGE.sentence("Promise 24", "DEMAND. NONE: no such SELF, not THERE");
        for (int self : SELVES_OUTSIDE) {
            refusedAlways("demand(" + self + ")", x -> x.demand(self), NONE);
        }
        refusedWithoutLife("demand(0)", x -> x.demand(0), NONE);
        EDGE.refused(Edge::leaf, "demand(1) of l", x -> x.demand(1), NONE);
        EDGE.refused(Edge::five, "demand(2), not there", x -> x.demand(2), NONE);
        EDGE.asked(Edge::leaf, "demand(0) of l", x -> x.demand(0), 5);
        EDGE.asked(Edge::five, "demand(1)", x -> x.demand(1), 26);
        EDGE.asked(Edge::five, "demand(4)", x -> x.demand(4), 4);
    }

    private static void terms() {
        EDGE.sentence("Terms 3", "TERMS: what is over (below 0: what is missing)");
        OtherSelves x = Due.at("f(:lg10t0;:lg20t0;:lg40t0d1)");
        row("at the edge", of(x.terms(29), x.terms(30), x.terms(31), x.terms(0), x.terms(9999)), -1, 0, 1, -30, 9969);
        x.set(3, 2);
        row("the dead too", of(x.terms(69), x.terms(70), x.terms(71)), -1, 0, 1);
        x.open(0, 1, false);
        EDGE.is("those there", x.terms(50), 0);
        EDGE.sentence("Promise 25", "TERMS: what is over. HIDDEN: no LIFE, out of bounds");
        for (int pot : POTS_OUTSIDE) {
            refusedAlways("terms(" + pot + ")", y -> y.terms(pot), HIDDEN);
            EDGE.refused(Edge::leaf, "terms(" + pot + ") of l", y -> y.terms(pot), HIDDEN);
        }
        for (int pot : of(0, 1, 9999)) {
            refusedWithoutLife("terms(" + pot + ")", y -> y.terms(pot), HIDDEN);
            EDGE.asked(Edge::leaf, "terms(" + pot + ") of l", y -> y.terms(pot), pot - 5);
            EDGE.asked(Edge::five, "terms(" + pot + ")", y -> y.terms(pot), pot - 7 - 26 - 6 - 4);
        }
    }

    private static void away() {
        EDGE.sentence("Terms 3", "AWAY: the fewest SELVES (bits; of several the least) who have to go so that the others' "
            + "DEMANDS are no more than the POT");
        OtherSelves x = Due.at("f(:lg10t0;:lg20t0;:lg10t0;:lg0)");
        row("pots", of(x.away(41), x.away(40), x.away(39), x.away(30), x.away(29), x.away(20), x.away(19), x.away(10), x.away(9),
            x.away(1), x.away(0)), 0, 0, 1, 1, 2, 2, 3, 3, 7, 7, 7);
        x.open(0, 0, false);
        row("those there", of(x.away(30), x.away(29), x.away(20), x.away(19), x.away(10), x.away(9), x.away(0)),
            0, 2, 2, 2, 2, 6, 6);
        OtherSelves y = Due.at("f(:lg10t0;:lg10t0d1)");
        row("the dead demand nothing", of(y.away(10), y.away(9), y.away(0)), 0, 1, 1);
        y.set(3, 2);
        row("by law 2 they do", of(y.away(20), y.away(19), y.away(10), y.away(9)), 0, 1, 1, 3);
        OtherSelves z = Due.at(TWELVE);
        row("twelve", of(z.away(60), z.away(59), z.away(55), z.away(54), z.away(5), z.away(4), z.away(0)),
            0, 1, 1, 3, 2047, 4095, 4095);
        EDGE.is("nobody demands", Due.at("lg0").away(0), 0);
        EDGE.is("one alone", Due.at("lg2").away(0), 1);
        EDGE.sentence("Promise 26", "AWAY, as bits. NONE: no LIFE, out of bounds");
        for (int pot : POTS_OUTSIDE) {
            refusedAlways("away(" + pot + ")", q -> q.away(pot), NONE);
            EDGE.refused(Edge::leaf, "away(" + pot + ") of l", q -> q.away(pot), NONE);
        }
        for (int pot : of(0, 9999)) {
            refusedWithoutLife("away(" + pot + ")", q -> q.away(pot), NONE);
            EDGE.asked(Edge::leaf, "away(" + pot + ") of l", q -> q.away(pot), pot == 0 ? 1 : 0);
            EDGE.asked(Edge::five, "away(" + pot + ")", q -> q.away(pot), pot == 0 ? 27 : 0);
        }
    }

    private static OtherSelves noTastes() {
        return Due.at(Edge.FIVE);
    }

    private static void elected() {
        EDGE.sentence("Terms 3", "each SELF (a DEAD one, if the LAW has 1) is for the one with the greatest WORTH for it "
            + "(of several the lowest); ELECTED: the most VOTES (of several the lowest)");
        OtherSelves x = Due.at("f(:lg1;:lg2;:lg3d1;:lg4)", "y:0", "y:g=1?1", "y:g=2?1", "y:g=3|g=4?1", "y:g=4?1;y:0-1");
        row("one each: the lowest of them", of(x.elected(0), x.elected(1)), 1, 1);
        x.set(3, 1);
        row("the dead votes by law 1", of(x.elected(0), x.elected(1)), 3, 2);
        x.set(3, 2);
        row("by law 2 not", of(x.elected(0), x.elected(1)), 1, 1);
        x.set(3, 3);
        row("by law 3", of(x.elected(0), x.elected(1)), 3, 2);
        x.open(0, 0, false);
        x.open(0, 1, false);
        x.open(0, 3, false);
        row("one there", of(x.elected(0), x.elected(1)), 3, 1);
        OtherSelves y = Due.at("f(:l;:l)", "y:0-1000*1000", "y:0-1000*1000");
        row("below 0, alike: the lowest", of(y.elected(0), y.elected(1)), 0, 2);
        OtherSelves z = Due.at("l", "y:0", "y:0", "y:0", "y:0", "y:0", "y:1");
        row("the sixth motion", of(z.elected(0), z.elected(1)), 5, 1);
        OtherSelves w = Due.at(TWELVE, "y:1");
        row("twelve voters, one motion", of(w.elected(0), w.elected(1)), 0, 12);
        EDGE.sentence("Promise 27", "the motion (0), how many (1). NONE: no TASTES, nobody votes, no LIFE, no such what");
        for (int what : Edge.outside(0, 1)) {
            refusedAlways("elected(" + what + ")", q -> q.elected(what), NONE);
        }
        for (int what = 0; what < 2; what++) {
            int a = what;
            refusedWithoutLife("elected(" + what + ")", q -> q.elected(a), NONE);
            EDGE.refused(TableEdgeTests::noTastes, "elected(" + what + ") without tastes", q -> q.elected(a), NONE);
            EDGE.refused(TableEdgeTests::dead, "elected(" + what + ") of the dead", q -> q.elected(a), NONE);
            EDGE.refused(TableEdgeTests::deadThere, "elected(" + what + ") of the dead there", q -> q.elected(a), NONE);
            EDGE.asked(Edge::leaf, "elected(" + what + ") of l", q -> q.elected(a), 1);
            EDGE.asked(Edge::five, "elected(" + what + ")", q -> q.elected(a), what == 0 ? 1 : 3);
        }
    }

    private static void duels() {
        EDGE.sentence("Terms 3", "DUEL: how many more have a greater WORTH by the one than by the other");
        OtherSelves x = Due.at(TWELVE, "y:1000*1000", "y:0-1000*1000", "y:1000*1000");
        row("all twelve", of(x.duel(0, 1), x.duel(1, 0), x.duel(0, 2), x.duel(0, 0), x.duel(1, 1)), 12, -12, 0, 0, 0);
        OtherSelves y = Due.at("f(:lg1;:lg2;:lg3d1)", "y:2", "y:g");
        row("alike counts for none", of(y.duel(0, 1), y.duel(1, 0)), 1, -1);
        y.set(3, 1);
        row("the dead by law 1", of(y.duel(0, 1), y.duel(1, 0)), 0, 0);
        y.open(0, 0, false);
        row("those there", of(y.duel(0, 1), y.duel(1, 0)), -1, 1);
        EDGE.sentence("Promise 28", "DUEL. HIDDEN: no such motions, no LIFE");
        for (int motion : Edge.outside(0, 1)) {
            EDGE.refused(Edge::five, "duel(" + motion + ", 0)", q -> q.duel(motion, 0), HIDDEN);
            EDGE.refused(Edge::five, "duel(1, " + motion + ")", q -> q.duel(1, motion), HIDDEN);
            EDGE.refused(Edge::five, "duel(" + motion + ", " + motion + ")", q -> q.duel(motion, motion), HIDDEN);
        }
        for (int motion : Edge.outside(0, 5)) {
            refusedAlways("duel(" + motion + ", 0)", q -> q.duel(motion, 0), HIDDEN);
            refusedAlways("duel(0, " + motion + ")", q -> q.duel(0, motion), HIDDEN);
        }
        refusedWithoutLife("duel(0, 1)", q -> q.duel(0, 1), HIDDEN);
        refusedWithoutLife("duel(0, 0)", q -> q.duel(0, 0), HIDDEN);
        EDGE.refused(TableEdgeTests::noTastes, "duel(0, 0) without tastes", q -> q.duel(0, 0), HIDDEN);
        EDGE.asked(TableEdgeTests::dead, "duel(0, 1), nobody votes", q -> q.duel(0, 1), 0);
        EDGE.asked(Edge::five, "duel(1, 0)", q -> q.duel(1, 0), 2);
        EDGE.asked(Edge::five, "duel(1, 1)", q -> q.duel(1, 1), 0);
        EDGE.asked(Edge::full, "duel(5, 0)", q -> q.duel(5, 0), -4);
    }

    private static OtherSelves oneTaste() {
        return Due.at(Edge.FIVE, "y:g");
    }

    private static void beating() {
        EDGE.sentence("Terms 3", "BEATS: the motion that has more in each DUEL with another one");
        EDGE.is("of two the first", Due.at("l", "y:2", "y:1").beats(), 0);
        EDGE.is("of two the second", Due.at("l", "y:1", "y:2").beats(), 1);
        EDGE.is("alike: none", Due.at("l", "y:1", "y:1").beats(), NONE);
        EDGE.is("alike with one of five", Due.at("l", "y:9", "y:1", "y:1", "y:1", "y:1", "y:9").beats(), NONE);
        EDGE.is("of six the last", Due.at("l", "y:1", "y:1", "y:1", "y:1", "y:1", "y:9").beats(), 5);
        EDGE.is("of six the third", Due.at("l", "y:1", "y:1", "y:9", "y:1", "y:1", "y:1").beats(), 2);
        EDGE.is("one vote for each: none", Due.at("f(:lg1;:lg2)", "y:g", "y:3-g").beats(), NONE);
        EDGE.sentence("Promise 29", "BEATS. NONE: none, fewer than two TASTES, no LIFE");
        refusedWithoutLife("beats()", x -> x.beats(), NONE);
        EDGE.refused(TableEdgeTests::noTastes, "beats() without tastes", x -> x.beats(), NONE);
        EDGE.refused(TableEdgeTests::oneTaste, "beats() with one", x -> x.beats(), NONE);
        EDGE.refused(TableEdgeTests::dead, "beats(), nobody votes", x -> x.beats(), NONE);
        EDGE.refused(TableEdgeTests::deadThere, "beats(), nobody there votes", x -> x.beats(), NONE);
        EDGE.asked(Edge::five, "beats()", x -> x.beats(), 1);
        EDGE.asked(Edge::leaf, "beats() of l", x -> x.beats(), 1);
    }

    private static String worths(int one, int two, int three) {
        return "y:g=1?" + one + ";y:g=2?" + two + ";y:" + three;
    }

    private static final String THREE = "f(:lg1;:lg2;:lg3)";
    private static final String A = worths(3, 1, 2);
    private static final String B = worths(2, 3, 1);
    private static final String C = worths(1, 2, 3);

    private static OtherSelves ring() {
        return Due.at(THREE, A, B, C);
    }

    private static OtherSelves twoTastes() {
        return Due.at(THREE, A, B);
    }

    private static void rings() {
        EDGE.sentence("Terms 3", "RING: three motions, each with more in a DUEL than the next, the last one than the first "
            + "(100 times the first, 10 times the second, and the third: the least)");
        EDGE.is("one round", Due.at(THREE, A, B, C).ring(), 12);
        EDGE.is("the other one", Due.at(THREE, A, C, B).ring(), 21);
        EDGE.is("it begins with the least", Due.at(THREE, B, A, C).ring(), 21);
        EDGE.is("the last three of six", Due.at(THREE, "y:0", "y:0", "y:0", A, B, C).ring(), 345);
        EDGE.is("the last three, the other way round", Due.at(THREE, "y:0", "y:0", "y:0", A, C, B).ring(), 354);
        EDGE.is("of several the least", Due.at(THREE, A, C, B, B, C).ring(), 21);
        EDGE.is("the third alike", Due.at(THREE, A, B, C, C).ring(), 12);
        EDGE.is("alike is not more", Due.at(THREE, A, B, worths(3, 1, 2)).ring(), NONE);
        EDGE.is("one of the three duels is even", Due.at(THREE, A, worths(2, 2, 1), worths(1, 1, 3)).ring(), NONE);
        EDGE.is("of twelve", Due.at(TWELVE, "y:1", "y:2", "y:3").ring(), NONE);
        OtherSelves x = Due.at(THREE, A, B, C);
        x.open(0, 2, false);
        EDGE.is("two alone there", x.ring(), NONE);
        EDGE.sentence("Promise 30", "RING. NONE: none, no LIFE");
        refusedWithoutLife("ring()", y -> y.ring(), NONE);
        EDGE.refused(TableEdgeTests::noTastes, "ring() without tastes", y -> y.ring(), NONE);
        EDGE.refused(TableEdgeTests::oneTaste, "ring() with one", y -> y.ring(), NONE);
        EDGE.refused(TableEdgeTests::twoTastes, "ring() with two", y -> y.ring(), NONE);
        EDGE.refused(TableEdgeTests::dead, "ring(), nobody votes", y -> y.ring(), NONE);
        EDGE.refused(Edge::full, "ring(), there is none", y -> y.ring(), NONE);
        EDGE.asked(TableEdgeTests::ring, "ring()", y -> y.ring(), 12);
    }

    private static void all() {
        EDGE.sentence("Terms 3", "ALL: those that all of a set of SELVES (THERE or not) have");
        OtherSelves x = Due.at(TEN_FACTS);
        EDGE.is("of one", x.all(1 << 10), 512);
        EDGE.is("of two", x.all(3 << 9), 0);
        EDGE.is("of eleven", x.all(2047), 0);
        OtherSelves y = Due.at("f(x0:f(x9:l;x5:l);:l)");
        row("sets", of(y.all(1), y.all(2), y.all(3), y.all(4), y.all(7)), 513, 33, 1, 0, 0);
        y.open(0, 0, false);
        row("there or not", of(y.all(1), y.all(3)), 513, 1);
        EDGE.sentence("Promise 31", "ALL, as bits (no SELF: all ten). NONE: no such set");
        EDGE.asked(Edge::five, "all(0)", q -> q.all(0), 1023);
        EDGE.asked(Edge::leaf, "all(0) of l", q -> q.all(0), 1023);
        EDGE.asked(Edge::leaf, "all(1) of l", q -> q.all(1), 0);
        EDGE.asked(Edge::five, "all(6)", q -> q.all(6), 6);
        EDGE.asked(Edge::five, "all(31)", q -> q.all(31), 0);
        for (int set : Edge.outside(0, 31)) {
            refusedAlways("all(" + set + ")", q -> q.all(set), NONE);
        }
        for (int set : Edge.outside(0, 1)) {
            EDGE.refused(Edge::leaf, "all(" + set + ") of l", q -> q.all(set), NONE);
        }
        for (int bit = 5; bit < 32; bit++) {
            int set = 1 << bit;
            EDGE.refused(Edge::five, "all(" + set + ")", q -> q.all(set), NONE);
            EDGE.refused(Edge::five, "all(" + (set | 1) + ")", q -> q.all(set | 1), NONE);
        }
        refusedWithoutLife("all(0)", q -> q.all(0), NONE);
        refusedWithoutLife("all(1)", q -> q.all(1), NONE);
        OtherSelves z = Due.at(TWELVE);
        row("twelve", of(z.all(4095), z.all(4096), z.all(2048)), 0, NONE, 0);
    }

    private static OtherSelves tenFacts() {
        return Due.at(TEN_FACTS);
    }

    private static void telling() {
        EDGE.sentence("Terms 3", "TELLING a SELF: the fewest numbers of FACTS (bits; of several the least) on which no other "
            + "one THERE is alike (each has it or not)");
        OtherSelves x = Due.at(TEN_FACTS);
        EDGE.is("all ten", x.telling(0), 1023);
        for (int self = 1; self < 11; self++) {
            EDGE.is("telling " + self, x.telling(self), 1 << self - 1);
        }
        x.open(0, 1, false);
        EDGE.is("nine", x.telling(0), 1022);
        OtherSelves w = Due.at("f(x7:f(x3:l;x5:l);:l)");
        row("with three", of(w.telling(0), w.telling(1), w.telling(2)), 8, 32, 128);
        w.open(1, 1, false);
        row("of several the least", of(w.telling(0), w.telling(2)), 8, 8);
        OtherSelves y = Due.at("f(x3:l;:l;:f(x5:l;x6:l))");
        row("whether they have it or not", of(y.telling(0), y.telling(1), y.telling(2), y.telling(3)), 8, 8 + 32 + 64, 32, 64);
        OtherSelves z = Due.at("f(x7:f(x2:l;x2:l);:l)");
        row("twins can't be told", of(z.telling(0), z.telling(1), z.telling(2)), NONE, NONE, 4);
        z.open(1, 1, false);
        row("the twin is not there", of(z.telling(0), z.telling(2)), 4, 4);
        z.open(0, 1, false);
        EDGE.is("alone there: none is needed", z.telling(0), 0);
        EDGE.sentence("Promise 32", "TELLING, as bits. NONE: it can't be, no such SELF, not THERE");
        for (int self : SELVES_OUTSIDE) {
            refusedAlways("telling(" + self + ")", q -> q.telling(self), NONE);
        }
        refusedWithoutLife("telling(0)", q -> q.telling(0), NONE);
        EDGE.refused(Edge::five, "telling(0), it can't be", q -> q.telling(0), NONE);
        EDGE.refused(Edge::five, "telling(2), not there", q -> q.telling(2), NONE);
        EDGE.refused(Edge::full, "telling(2), not there", q -> q.telling(2), NONE);
        EDGE.asked(Edge::five, "telling(1)", q -> q.telling(1), 4);
        EDGE.asked(Edge::five, "telling(3)", q -> q.telling(3), 5);
        EDGE.asked(Edge::leaf, "telling(0) of l", q -> q.telling(0), 0);
        EDGE.asked(TableEdgeTests::tenFacts, "telling(0) of ten", q -> q.telling(0), 1023);
    }

    private static void twins() {
        EDGE.sentence("Terms 3", "TWINS: others THERE with just the same FACTS");
        OtherSelves x = Due.at(TWELVE);
        row("without facts", of(x.twins(0), x.twins(11)), 4094, 2047);
        x.open(0, 0, false);
        row("four not there", of(x.twins(0), x.twins(11), x.twins(4)), 4080, 2032, 4064);
        OtherSelves y = Due.at("f(x1:f(x2:l;:l);x2:f(x1:l;x2:l);x1:l)");
        row("just the same", of(y.twins(0), y.twins(1), y.twins(2), y.twins(3), y.twins(4)), 4, 16, 1, 0, 2);
        EDGE.sentence("Promise 33", "TWINS, as bits. NONE: no such SELF");
        for (int self : SELVES_OUTSIDE) {
            refusedAlways("twins(" + self + ")", q -> q.twins(self), NONE);
        }
        refusedWithoutLife("twins(0)", q -> q.twins(0), NONE);
        int[] want = {16, 0, 2, 0, 1};
        for (int self = 0; self < 5; self++) {
            int a = self;
            EDGE.asked(Edge::five, "twins(" + self + ")", q -> q.twins(a), want[self]);
        }
        EDGE.asked(Edge::leaf, "twins(0) of l", q -> q.twins(0), 0);
        EDGE.refused(Edge::leaf, "twins(1) of l", q -> q.twins(1), NONE);
    }

    private static OtherSelves tenWithFacts() {
        OtherSelves x = Due.at(TEN_FACTS);
        x.open(0, 0, false);
        return x;
    }

    private static void sentences() {
        EDGE.sentence("Terms 3", "SENTENCE: the fewest FACTS (bits; of several the least) of which each one THERE has one");
        EDGE.is("one for all", Due.at("f(x4:l;x4:f(x1:l;x2:l))").sentence(), 16);
        EDGE.is("of several the least", Due.at("f(x4:f(x1:l;x1:l);x4:f(x1:l;x1:l))").sentence(), 2);
        EDGE.is("two", Due.at("f(x9:f(x8:l;x7:l);x6:f(x8:l;x5:l))").sentence(), 64 + 512);
        EDGE.is("two, the least", Due.at("f(x0:f(x3:l;x2:l);x1:f(x3:l;x2:l))").sentence(), 3);
        OtherSelves x = tenWithFacts();
        EDGE.is("all ten", x.sentence(), 1023);
        x.open(3, 1, false);
        EDGE.is("nine", x.sentence(), 511);
        EDGE.sentence("Promise 34", "SENTENCE, as bits. NONE: one has none, no LIFE");
        refusedWithoutLife("sentence()", q -> q.sentence(), NONE);
        EDGE.refused(Edge::leaf, "sentence() of l", q -> q.sentence(), NONE);
        EDGE.refused(TableEdgeTests::tenFacts, "sentence(), one has none", q -> q.sentence(), NONE);
        EDGE.asked(TableEdgeTests::tenWithFacts, "sentence(), he isn't there", q -> q.sentence(), 1023);
        EDGE.asked(Edge::five, "sentence()", q -> q.sentence(), 3);
    }

    private static void leads() {
        EDGE.sentence("Terms 3", "LEADS: whether all who have one FACT have another one; (Those THERE.)");
        OtherSelves x = Due.at("f(x0:f(x9:l;x5:l);x9:l)");
        row("leads", of(x.leads(5, 0), x.leads(0, 5), x.leads(9, 0), x.leads(0, 9), x.leads(3, 0), x.leads(0, 3), x.leads(3, 3),
            x.leads(9, 9)), 1, 0, 0, 0, 1, 0, 1, 1);
        x.open(0, 1, false);
        row("of those there", of(x.leads(9, 0), x.leads(0, 9)), 1, 0);
        x.open(1, 1, false);
        row("of one there", of(x.leads(9, 0), x.leads(0, 9), x.leads(5, 1)), 1, 1, 1);
        EDGE.sentence("Promise 35", "LEADS (1, 0). NONE: no such FACTS (0 .. 9), no LIFE");
        for (int fact : Edge.outside(0, 9)) {
            refusedAlways("leads(" + fact + ", 0)", q -> q.leads(fact, 0), NONE);
            refusedAlways("leads(0, " + fact + ")", q -> q.leads(0, fact), NONE);
            refusedAlways("leads(" + fact + ", " + fact + ")", q -> q.leads(fact, fact), NONE);
            EDGE.refused(Edge::leaf, "leads(9, " + fact + ") of l", q -> q.leads(9, fact), NONE);
        }
        refusedWithoutLife("leads(0, 0)", q -> q.leads(0, 0), NONE);
        refusedWithoutLife("leads(9, 9)", q -> q.leads(9, 9), NONE);
        EDGE.asked(Edge::leaf, "leads(0, 9) of l", q -> q.leads(0, 9), 1);
        EDGE.asked(Edge::five, "leads(2, 1)", q -> q.leads(2, 1), 1);
        EDGE.asked(Edge::five, "leads(1, 2)", q -> q.leads(1, 2), 0);
        EDGE.asked(Edge::five, "leads(0, 9)", q -> q.leads(0, 9), 0);
        EDGE.asked(Edge::five, "leads(9, 0)", q -> q.leads(9, 0), 1);
    }

    private static void clues() {
        EDGE.sentence("Promise 36", "NONE: no LIFE, out of bounds (kind 0 .. 5, u and v 0 .. 99)");
        for (int kind : Edge.outside(0, 5)) {
            refusedAlways("clue(" + kind + ", 0, 0)", x -> x.clue(kind, 0, 0), NONE);
            EDGE.refused(Edge::leaf, "clue(" + kind + ", 0, 0)", x -> x.clue(kind, 0, 0), NONE);
        }
        for (int u : Edge.outside(0, 99)) {
            for (int kind = 0; kind < 6; kind++) {
                int a = kind;
                EDGE.refused(Edge::five, "clue(" + kind + ", " + u + ", 0)", x -> x.clue(a, u, 0), NONE);
                EDGE.refused(Edge::five, "clue(" + kind + ", 0, " + u + ")", x -> x.clue(a, 0, u), NONE);
            }
            refusedAlways("clue(0, " + u + ", 0)", x -> x.clue(0, u, 0), NONE);
            refusedAlways("clue(5, 0, " + u + ")", x -> x.clue(5, 0, u), NONE);
        }
        for (int kind = 0; kind < 6; kind++) {
            int a = kind;
            refusedWithoutLife("clue(" + kind + ", 0, 0)", x -> x.clue(a, 0, 0), NONE);
            refusedWithoutLife("clue(" + kind + ", 99, 99)", x -> x.clue(a, 99, 99), NONE);
            for (int u : of(0, 1, 98, 99)) {
                for (int v : of(0, 1, 98, 99)) {
                    OtherSelves x = Edge.five();
                    EDGE.is("clue(" + kind + ", " + u + ", " + v + ")", x.clue(kind, u, v), 2);
                    EDGE.is("the same once more", x.clue(kind, u, v), 3);
                    EDGE.is("count", x.count(11), 3);
                }
            }
        }
        EDGE.sentence("Promise 36", "NONE: there are twelve");
        OtherSelves x = Due.at(Edge.FIVE);
        for (int i = 1; i <= 12; i++) {
            EDGE.is("clue " + i, x.clue(1, 0, 0), i);
        }
        for (int kind = 0; kind < 6; kind++) {
            int a = kind;
            EDGE.is("a thirteenth", x.clue(kind, 0, 0), NONE);
            EDGE.refused(Edge::full, "a thirteenth of kind " + kind, y -> y.clue(a, 0, 0), NONE);
            EDGE.refused(Edge::full, "a thirteenth of kind " + kind, y -> y.clue(a, 99, 99), NONE);
        }
        EDGE.is("twelve", x.count(11), 12);
        EDGE.is("all twelve hold", x.can(0), 14);
        x.call(0);
        EDGE.is("gone with a call", x.clue(0, 0, 0), 1);
    }

    // GOODS 0 5 99, YEARS 1 50 99, FACTS 0 9, none, 9; the last two PART at FORK 1.
    private static final String CLUED = "f(x0:f(x9:lg0y1;:l);:f(:lg5y50;x9:lg99y99))";

    private static int by(int kind, int u, int v) {
        OtherSelves x = Due.at(CLUED);
        x.open(0, 0, false);
        x.clue(kind, u, v);
        return x.can(0);
    }

    private static void kindsOfClues() {
        EDGE.sentence("Terms 3", "CLUES (of all SELVES, THERE or not): 0 has FACT u");
        row("facts", of(by(0, 0, 0), by(0, 9, 99), by(0, 1, 0), by(0, 10, 0), by(0, 32, 0), by(0, 99, 0)), 3, 9, 0, 0, 0, 0);
        EDGE.sentence("Terms 3", "CLUES: 1 has it not");
        row("no facts", of(by(1, 0, 0), by(1, 9, 99), by(1, 1, 0), by(1, 10, 0), by(1, 32, 0), by(1, 99, 0)),
            12, 6, 15, 15, 15, 15);
        EDGE.sentence("Terms 3", "CLUES: 2 has FORK u on its WAY");
        row("forks", of(by(2, 0, 0), by(2, 1, 99), by(2, 2, 0), by(2, 3, 0), by(2, 99, 0)), 15, 3, 12, 0, 0);
        EDGE.sentence("Terms 3", "CLUES: 3 HAS GOODS of u or more");
        row("goods", of(by(3, 0, 0), by(3, 1, 0), by(3, 5, 99), by(3, 6, 0), by(3, 10, 0), by(3, 11, 0), by(3, 99, 0)),
            15, 14, 14, 10, 10, 8, 8);
        EDGE.is("goods of the way too", Due.at("f(g9:lg90;:lg98)").clue(3, 99, 0), 1);
        OtherSelves x = Due.at("f(g9:lg90;:lg98)");
        x.clue(3, 99, 0);
        EDGE.is("99 of both together", x.can(0), 1);
        EDGE.sentence("Terms 3", "CLUES: 4 YEARS u or more");
        row("years", of(by(4, 0, 0), by(4, 1, 0), by(4, 2, 99), by(4, 40, 0), by(4, 41, 0), by(4, 50, 0), by(4, 51, 0),
            by(4, 99, 0)), 15, 15, 14, 14, 12, 12, 8, 8);
        EDGE.sentence("Terms 3", "CLUES: 5 PARTS from SELF u at FORK v");
        row("parting", of(by(5, 0, 0), by(5, 0, 1), by(5, 0, 2), by(5, 3, 0), by(5, 3, 2), by(5, 3, 1), by(5, 1, 1)),
            12, 2, 0, 3, 4, 0, 1);
        row("no such self, no such fork", of(by(5, 4, 0), by(5, 12, 0), by(5, 99, 0), by(5, 0, 3), by(5, 0, 99), by(5, 99, 99)),
            0, 0, 0, 0, 0, 0);
        EDGE.is("a leaf does not part from itself", leafBy(5, 0, 0), 0);
        row("a leaf", of(leafBy(2, 0, 0), leafBy(3, 10, 0), leafBy(3, 11, 0), leafBy(4, 40, 0), leafBy(4, 41, 0)), 0, 1, 0, 1, 0);
    }

    private static int leafBy(int kind, int u, int v) {
        OtherSelves x = Due.at("l");
        x.clue(kind, u, v);
        return x.can(0);
    }

    private static OtherSelves nobody() {
        OtherSelves x = Due.at(Edge.FIVE);
        x.clue(0, 5, 0);
        return x;
    }

    private static void can() {
        EDGE.sentence("Terms 3", "CAN: SELVES (bits) by which all CLUES are so; of these the likeliest (by ODDS as if all were "
            + "open; of several the lowest)");
        OtherSelves x = Due.at("f(:fk1(w1:l;w2:l;w2:l);:l)", "y:t");
        row("without a clue", of(x.can(0), x.can(1)), 15, 1);
        x.set(0, 2);
        row("the highest", of(x.can(0), x.can(1)), 15, 3);
        x.open(0, 1, false);
        row("as if all were open", of(x.can(0), x.can(1)), 15, 3);
        x.set(0, 1);
        x.open(1, 1, false);
        row("as if all were open, of kind 1", of(x.can(0), x.can(1)), 15, 1);
        x.clue(2, 1, 0);
        row("those behind", of(x.can(0), x.can(1)), 7, 1);
        x.set(0, 2);
        row("odds of 0: the lowest", of(x.can(0), x.can(1)), 7, 0);
        OtherSelves y = Due.at("f(:l;:l;:l)", "y:t=3&b=2?1;y:0");
        y.set(1, 0);
        y.open(0, 0, false);
        EDGE.is("the rule sees all open", y.can(1), 2);
        EDGE.sentence("Promise 37", "CAN, as bits (0), the likeliest (1; NONE: none). NONE: no LIFE, no such what");
        for (int what : Edge.outside(0, 1)) {
            refusedAlways("can(" + what + ")", q -> q.can(what), NONE);
        }
        refusedWithoutLife("can(0)", q -> q.can(0), NONE);
        refusedWithoutLife("can(1)", q -> q.can(1), NONE);
        EDGE.asked(TableEdgeTests::nobody, "can(0), nobody", q -> q.can(0), 0);
        EDGE.asked(TableEdgeTests::nobody, "can(1), nobody", q -> q.can(1), NONE);
        EDGE.asked(Edge::leaf, "can(0) of l", q -> q.can(0), 1);
        EDGE.asked(Edge::leaf, "can(1) of l", q -> q.can(1), 0);
        EDGE.asked(Edge::five, "can(0)", q -> q.can(0), 31);
        EDGE.asked(Edge::five, "can(1)", q -> q.can(1), 0);
        EDGE.asked(Edge::full, "can(0)", q -> q.can(0), 31);
    }

    private static OtherSelves twoLives() {
        OtherSelves x = new OtherSelves();
        Due.life(x, "fy10(x1:fy10(x2:l;x1:l);x3:fy99(x4:l;:l))");
        Due.life(x, "fy99(x4:fy10(x1:l;x3:l);:l;x3:l)");
        return x;
    }

    private static OtherSelves lookedAtFourth() {
        OtherSelves x = Edge.full();
        x.fault(0);
        return x;
    }

    private static void crossing() {
        EDGE.sentence("Terms 3", "CROSS: FACTS (bits) that both have by BRANCHES of FORKS with one YEAR");
        int[][] want = {{2, 0, 0, 0}, {2, 0, 0, 0}, {16, 24, 0, 0}, {0, 8, 0, 0}};
        for (int one = 0; one < 4; one++) {
            for (int other = 0; other < 4; other++) {
                int a = one;
                int b = 100 + other;
                EDGE.asked(TableEdgeTests::twoLives, "cross(" + a + ", " + b + ")", x -> x.cross(a, b), want[one][other]);
                EDGE.asked(TableEdgeTests::twoLives, "cross(" + b + ", " + a + ")", x -> x.cross(b, a), want[one][other]);
            }
        }
        EDGE.sentence("Promise 38", "CROSS (codes: 100 times the LIFE and the SELF). NONE: no such ones, one LIFE");
        for (int code : of(Edge.LEAST, Edge.LEAST + 1, -101, -100, -99, -1, 4, 5, 99, 104, 199, 200, 300, Edge.MOST - 1, Edge.MOST)) {
            EDGE.refused(TableEdgeTests::twoLives, "cross(" + code + ", 100)", x -> x.cross(code, 100), NONE);
            EDGE.refused(TableEdgeTests::twoLives, "cross(0, " + code + ")", x -> x.cross(0, code), NONE);
            EDGE.refused(TableEdgeTests::twoLives, "cross(" + code + ", " + code + ")", x -> x.cross(code, code), NONE);
        }
        for (int code : of(Edge.LEAST, -1, 1, 99, 105, 199, 202, 299, 300, 400, Edge.MOST)) {
            refusedAlways("cross(" + code + ", 200)", x -> x.cross(code, 200), NONE);
            refusedAlways("cross(0, " + code + ")", x -> x.cross(0, code), NONE);
        }
        for (int self = 0; self < 4; self++) {
            for (int other = 0; other < 4; other++) {
                int a = self;
                int b = other;
                EDGE.refused(TableEdgeTests::twoLives, "one life, " + a + " " + b, x -> x.cross(a, b), NONE);
                EDGE.refused(TableEdgeTests::twoLives, "one life, 100", x -> x.cross(100 + a, 100 + b), NONE);
            }
        }
        refusedWithoutLife("cross(0, 100)", x -> x.cross(0, 100), NONE);
        refusedWithoutLife("cross(0, 0)", x -> x.cross(0, 0), NONE);
        EDGE.refused(Edge::leaf, "cross(0, 100), one life alone", x -> x.cross(0, 100), NONE);
        EDGE.refused(Edge::leaf, "cross(0, 0), one life alone", x -> x.cross(0, 0), NONE);
        EDGE.refused(TableEdgeTests::lookedAtFourth, "cross(0, 300), looked at alone", x -> x.cross(0, 300), NONE);
        EDGE.asked(Edge::full, "cross(0, 104)", x -> x.cross(0, 104), 0);
        EDGE.asked(Edge::full, "cross(101, 200)", x -> x.cross(101, 200), 2);
        EDGE.asked(Edge::full, "cross(201, 104)", x -> x.cross(201, 104), 0);
    }

    private static void meetings() {
        EDGE.sentence("Terms 3", "MEETINGS: pairs of their SELVES that CROSS at all: how many; the one that crosses most of the "
            + "other's (of the first LIFE; of several the lowest)");
        EDGE.asked(TableEdgeTests::twoLives, "meetings(0, 1, 0)", x -> x.meetings(0, 1, 0), 5);
        EDGE.asked(TableEdgeTests::twoLives, "meetings(0, 1, 1)", x -> x.meetings(0, 1, 1), 2);
        EDGE.asked(TableEdgeTests::twoLives, "meetings(1, 0, 0)", x -> x.meetings(1, 0, 0), 5);
        EDGE.asked(TableEdgeTests::twoLives, "meetings(1, 0, 1)", x -> x.meetings(1, 0, 1), 0);
        EDGE.asked(Edge::full, "meetings(1, 2, 0)", x -> x.meetings(1, 2, 0), 3);
        EDGE.asked(Edge::full, "meetings(1, 2, 1): of several the lowest", x -> x.meetings(1, 2, 1), 1);
        EDGE.asked(Edge::full, "meetings(2, 1, 0), more selves in the other", x -> x.meetings(2, 1, 0), 3);
        EDGE.asked(Edge::full, "meetings(2, 1, 1)", x -> x.meetings(2, 1, 1), 0);
        OtherSelves few = new OtherSelves();
        Due.life(few, "fy10(:l;:l;x1:l)");
        Due.life(few, "fy10(x1:l;:l)");
        row("the last of three", of(few.meetings(0, 1, 0), few.meetings(0, 1, 1), few.meetings(1, 0, 1)), 1, 2, 0);
        OtherSelves many = new OtherSelves();
        String twelve = TWELVE.replaceFirst("f\\(:f", "f(x0:f").replace(";:f", ";x0:f");
        Due.life(many, twelve);
        Due.life(many, twelve);
        row("all of twelve", of(many.meetings(0, 1, 0), many.meetings(0, 1, 1)), 144, 0);
        EDGE.sentence("Promise 39", "how many (0), who most (1; NONE: nobody at all). NONE: no such LIVES, alike, no such what");
        EDGE.asked(Edge::full, "meetings(0, 1, 0), a leaf", x -> x.meetings(0, 1, 0), 0);
        EDGE.asked(Edge::full, "meetings(0, 1, 1), nobody at all", x -> x.meetings(0, 1, 1), NONE);
        EDGE.asked(Edge::full, "meetings(1, 0, 1), nobody at all", x -> x.meetings(1, 0, 1), NONE);
        for (int life : Edge.outside(0, 2)) {
            for (int what = 0; what < 2; what++) {
                int a = what;
                refusedAlways("meetings(" + life + ", 0, " + what + ")", x -> x.meetings(life, 0, a), NONE);
                refusedAlways("meetings(0, " + life + ", " + what + ")", x -> x.meetings(0, life, a), NONE);
                refusedAlways("meetings(" + life + ", " + life + ", " + what + ")", x -> x.meetings(life, life, a), NONE);
            }
        }
        for (int life = 0; life < 3; life++) {
            int a = life;
            refusedAlways("meetings alike, 0", x -> x.meetings(a, a, 0), NONE);
            refusedAlways("meetings alike, 1", x -> x.meetings(a, a, 1), NONE);
        }
        for (int what : Edge.outside(0, 1)) {
            refusedAlways("meetings(0, 1, " + what + ")", x -> x.meetings(0, 1, what), NONE);
            EDGE.refused(TableEdgeTests::twoLives, "meetings(0, 1, " + what + ")", x -> x.meetings(0, 1, what), NONE);
        }
        EDGE.refused(TableEdgeTests::twoLives, "meetings(0, 2, 0), there are two", x -> x.meetings(0, 2, 0), NONE);
        EDGE.refused(TableEdgeTests::twoLives, "meetings(2, 1, 1), there are two", x -> x.meetings(2, 1, 1), NONE);
        EDGE.refused(Edge::leaf, "meetings(0, 1, 0), there is one", x -> x.meetings(0, 1, 0), NONE);
        refusedWithoutLife("meetings(0, 1, 0)", x -> x.meetings(0, 1, 0), NONE);
    }

    public static void main(String[] args) {
        sharesOfAPot();
        share();
        demand();
        terms();
        away();
        elected();
        duels();
        beating();
        rings();
        all();
        telling();
        twins();
        sentences();
        leads();
        clues();
        kindsOfClues();
        can();
        crossing();
        meetings();
        EDGE.close("TableEdgeTests");
    }
}
