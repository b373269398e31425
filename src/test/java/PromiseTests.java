import java.util.NoSuchElementException;

/** Promises 1 to 46, told by hand: ordinary calls, the edges that the document names, wrong arguments. */
public final class PromiseTests {
    private static final int NONE = OtherSelves.NONE;
    private static final int HIDDEN = OtherSelves.HIDDEN;
    private static final int LEAST = Integer.MIN_VALUE;
    private static final int MOST = Integer.MAX_VALUE;
    private static final Due DUE = new Due();

    // SELVES 0 .. 4: goods 15 33 43 13 8, joy 51 50 50 9 50, owes 2 0 1 0 0, facts 0, 1 2, 1 2, 1, 0; 2 is dead.
    // By JOY and GOODS less OWES they are worth 64 83 92 22 58.
    private static final String LIFE =
        "fy10(g5j1o2x0:l;w2g3x1:fk1y15(w1x2:lg30t2;w3x2o1:ld1g40;w2:ly60j9);x0:lg8)";

    private static void due(String call, long got, long want) {
        DUE.due(call, got, want);
    }

    /** Several answers at once, written one behind the other. */
    private static void row(String calls, int[] got, int... want) {
        due(calls + ": how many", got.length, want.length);
        for (int i = 0; i < got.length && i < want.length; i++) {
            due(calls + " number " + i, got[i], want[i]);
        }
    }

    private static int[] of(int... numbers) {
        return numbers;
    }

    private static int[] counts(OtherSelves x) {
        int[] counts = new int[14];
        for (int i = 0; i < counts.length; i++) {
            counts[i] = x.count(i);
        }
        return counts;
    }

    private static void throwsNone(OtherSelves x, int self, int what) {
        boolean threw = false;
        try {
            x.self(self, what);
        } catch (NoSuchElementException e) {
            threw = true;
        }
        due("self(" + self + ", " + what + ") throws", threw ? 1 : 0, 1);
    }

    private static void promise1New() {
        row("a new object", counts(new OtherSelves()), 0, NONE, 0, 0, 0, 0, 0, 0, NONE, NONE, 0, 0, 0, 0);
        due("NONE", NONE, -1);
        due("HIDDEN", HIDDEN, -2000000000);
    }

    private static void promise2Feed() {
        OtherSelves x = new OtherSelves();
        due("feed of nothing", x.feed(0, 0, 0, 0, 0), 0);
        due("feed, highest first", x.feed(0x6c000067, 0x00310000, 0, 0, 0x0000006a), 4);
        due("it is lg1j", x.fault(0), 4);
        due("feed one more", x.feed(0, 0, 0x32, 0, 0), 5);
        due("it is lg1j2", x.fault(0), NONE);
        due("bytes above 127 count", x.feed(-1, 0, 0, 0, 0), 9);
        x = new OtherSelves();
        int blanks = 0x20202020;
        for (int i = 1; i <= 11; i++) {
            due("twenty blanks", x.feed(blanks, blanks, blanks, blanks, blanks), 20 * i);
        }
        due("nineteen more", x.feed(blanks, blanks, blanks, blanks, 0x20202000), 239);
        due("two too many", x.feed(0x20200000, 0, 0, 0, 0), NONE);
        due("which changed nothing", x.count(5), 239);
        int[] two = new int[5];
        for (int i = 0; i < 5; i++) {
            two[i] = 0x20200000;
            due("two too many as number " + i, x.feed(two[0], two[1], two[2], two[3], two[4]), NONE);
            two[i] = 0;
        }
        due("the last byte", x.feed(0, 0, 0, 0, 0x6c), 240);
        due("nothing more fits", x.feed(0, 0, 0, 0, 0), 240);
        due("one too many", x.feed(0, 1, 0, 0, 0), NONE);
        due("a leaf behind 239 blanks", x.text(0), 0);
    }

    private static void promise3End() {
        OtherSelves x = new OtherSelves();
        DUE.due("end(0) of nothing", x.end(0), true);
        DUE.due("end(1) of nothing", x.end(1), false);
        Due.tape(x, "lg12");
        DUE.due("end(-1)", x.end(-1), false);
        DUE.due("end(5)", x.end(5), false);
        DUE.due("end, least", x.end(LEAST), false);
        DUE.due("end, most", x.end(MOST), false);
        due("nothing changed", x.count(5), 4);
        DUE.due("end(4)", x.end(4), true);
        due("all four", x.count(5), 4);
        DUE.due("end(3)", x.end(3), true);
        x.text(0);
        due("goods of lg1", x.self(0, 0), 1);
    }

    private static void promise4Fault() {
        due("fault of lg100", Due.fault("lg100", 0), 4);
        due("fault of ly0", Due.fault("ly0", 0), 2);
        due("fault of a taste", Due.fault("y:g", 1), NONE);
        due("a taste is no life", Due.fault("y:g", 0), 0);
        due("fault(2)", Due.fault("l", 2), -2);
        due("fault(-1)", Due.fault("l", -1), -2);
    }

    private static void promise5Text() {
        OtherSelves x = new OtherSelves();
        due("no text", x.text(0), NONE);
        Due.tape(x, "ll");
        due("a fault", x.text(0), NONE);
        due("the tape stays", x.count(5), 2);
        due("no such sort", x.text(2), NONE);
        due("no such sort either", x.text(-1), NONE);
        due("a life", Due.life(x, "l"), 0);
        due("the tape is empty", x.count(5), 0);
        due("it is at the table", x.count(1), 0);
        due("a second", Due.life(x, LIFE), 1);
        due("a third", Due.life(x, "lg9"), 2);
        due("a fourth", Due.life(x, "lg8"), NONE);
        due("which changed nothing", x.count(5) * 100 + x.count(0) * 10 + x.count(1), 332);
        due("goods", x.self(0, 0), 9);
        for (int i = 0; i < 6; i++) {
            due("a taste", Due.taste(x, "y:" + i), i);
        }
        due("a seventh", Due.taste(x, "y:7"), NONE);
        due("its tape stays", x.count(5), 3);
        due("six tastes", x.count(4), 6);
        due("at the table stays", x.count(1), 2);
    }

    private static void promise6Call() {
        OtherSelves x = Due.at(LIFE, "y:g", "y:j");
        due("call(1)", x.call(1), NONE);
        due("call(-1)", x.call(-1), NONE);
        due("call, least", x.call(LEAST), NONE);
        x.open(0, 0, false);
        x.set(0, 3);
        x.set(1, 0);
        x.set(2, 1);
        x.set(3, 2);
        x.clue(0, 0, 0);
        x.birthday(1);
        x.image();
        row("before", counts(x), 1, 0, 5, 2, 2, 0, 4, 3, 0, 1, 2, 1, 1, 5);
        due("a refused call changes nothing", x.call(3), NONE);
        row("the same", counts(x), 1, 0, 5, 2, 2, 0, 4, 3, 0, 1, 2, 1, 1, 5);
        due("call(0)", x.call(0), 5);
        row("after", counts(x), 1, 0, 5, 2, 2, 0, 5, 3, 0, 1, 2, 0, 0, 0);
        due("the image is gone", x.back(), NONE);
        x.open(0, 1, false);
        x.image();
        Due.life(x, "l");
        row("told", counts(x), 2, 1, 1, 0, 2, 0, 1, 3, 0, 1, 2, 0, 0, 0);
        due("no image", x.back(), NONE);
        due("back to the first", x.call(0), 5);
        due("all open there", x.fork(0, 3), 3);
    }

    private static void promise7Self() {
        OtherSelves x = Due.at(LIFE);
        int[][] want = {
            {15, 51, 2, 40, 0, 5, 1, 1, 1}, {33, 50, 0, 40, 0, 2, 6, 1, 2}, {43, 50, 1, 40, 1, 5, 6, 1, 2},
            {13, 9, 0, 60, 0, 5, 2, 1, 2}, {8, 50, 0, 40, 0, 5, 1, 1, 1}};
        for (int self = 0; self < 5; self++) {
            for (int what = 0; what < 9; what++) {
                due("self(" + self + ", " + what + ")", x.self(self, what), want[self][what]);
            }
        }
        x.open(1, 1, false);
        due("not there", x.self(2, 7), 0);
        due("there", x.self(1, 7), 1);
        x.open(0, 1, false);
        due("not there by its first fork", x.self(1, 7), 0);
        throwsNone(x, 5, 0);
        throwsNone(x, -1, 0);
        throwsNone(x, 0, 9);
        throwsNone(x, 0, -1);
        throwsNone(x, MOST, MOST);
        throwsNone(x, LEAST, LEAST);
        throwsNone(new OtherSelves(), 0, 0);
    }

    private static void promise8Way() {
        OtherSelves x = Due.at(LIFE);
        row("ways", of(x.way(0, 0), x.way(1, 0), x.way(1, 1), x.way(3, 1), x.way(4, 0)), 0, 1, 10, 12, 2);
        row("no ways", of(x.way(0, 1), x.way(1, 2), x.way(1, -1), x.way(5, 0), x.way(-1, 0), x.way(MOST, MOST)),
            NONE, NONE, NONE, NONE, NONE, NONE);
        due("no way of a leaf alone", Due.at("l").way(0, 0), NONE);
    }

    private static void promise9Fork() {
        OtherSelves x = Due.at(LIFE);
        for (int what = 0; what < 6; what++) {
            due("fork(0, " + what + ")", x.fork(0, what), new int[] {10, 0, 3, 3, NONE, 31}[what]);
            due("fork(1, " + what + ")", x.fork(1, what), new int[] {15, 1, 3, 3, 0, 14}[what]);
        }
        x.open(1, 2, false);
        row("one closed", of(x.fork(1, 2), x.fork(1, 3), x.fork(1, 5)), 3, 2, 14);
        row("no such", of(x.fork(2, 0), x.fork(-1, 0), x.fork(0, 6), x.fork(0, -1), x.fork(LEAST, 0)),
            NONE, NONE, NONE, NONE, NONE);
        OtherSelves y = Due.at("f(:f(:l;:l);:f(:l;:f(:l;:l)))");
        row("ahead", of(y.fork(1, 4), y.fork(2, 4), y.fork(3, 4)), 0, 0, 2);
        row("as they stand", of(y.fork(1, 0), y.fork(1, 5), y.fork(2, 5), y.fork(3, 5)), 20, 3, 28, 24);
    }

    private static void promise10Branch() {
        OtherSelves x = Due.at(LIFE);
        for (int what = 0; what < 7; what++) {
            due("branch(0, 0, " + what + ")", x.branch(0, 0, what), new int[] {1, 5, 1, 2, 0, 1, 0}[what]);
            due("branch(0, 1, " + what + ")", x.branch(0, 1, what), new int[] {2, 3, 0, 0, 1, 1, 101}[what]);
            due("branch(1, 2, " + what + ")", x.branch(1, 2, what), new int[] {2, 0, 0, 0, NONE, 1, 3}[what]);
        }
        x.open(0, 1, false);
        row("closed", of(x.branch(0, 1, 5), x.branch(0, 0, 5), x.branch(1, 0, 5)), 0, 1, 1);
        row("no such", of(x.branch(0, 3, 0), x.branch(0, -1, 0), x.branch(2, 0, 0), x.branch(-1, 0, 0),
            x.branch(0, 0, 7), x.branch(0, 0, -1)), NONE, NONE, NONE, NONE, NONE, NONE);
    }

    private static void promise11Part() {
        OtherSelves x = Due.at(LIFE);
        row("where", of(x.part(1, 3, 0), x.part(3, 1, 0), x.part(0, 4, 0), x.part(1, 4, 0)), 1, 1, 0, 0);
        row("its year", of(x.part(1, 2, 1), x.part(2, 0, 1)), 15, 10);
        row("none", of(x.part(1, 1, 0), x.part(1, 5, 0), x.part(-1, 1, 0), x.part(1, 2, 2), x.part(1, 2, -1)),
            NONE, NONE, NONE, NONE, NONE);
    }

    private static void promise12Open() {
        OtherSelves x = Due.at(LIFE);
        row("it is so, no such", of(x.open(0, 0, true), x.open(0, 3, false), x.open(2, 0, false), x.open(-1, 0, false),
            x.open(0, -1, false)), NONE, NONE, NONE, NONE, NONE);
        row("closing", of(x.open(0, 0, false), x.open(0, 0, false), x.open(0, 2, false)), 1, NONE, 2);
        due("the last open one", x.open(0, 1, false), NONE);
        due("it is open", x.branch(0, 1, 5), 1);
        due("opening", x.open(0, 0, true), 3);
        due("now it may be closed", x.open(0, 1, false), 4);
        due("there", x.count(6), 1);
        for (int i = 5; i <= 45; i++) {
            due("an act more", x.open(1, 0, i % 2 == 0), Math.min(40, i));
        }
        due("no life", new OtherSelves().open(0, 0, false), NONE);
    }

    private static void promise13Set() {
        OtherSelves x = Due.at(LIFE, "y:g", "y:j");
        row("it is so", of(x.set(0, 0), x.set(1, NONE), x.set(2, NONE), x.set(3, 0)), NONE, NONE, NONE, NONE);
        row("no such", of(x.set(0, 4), x.set(0, -1), x.set(1, 2), x.set(1, -2), x.set(2, 2), x.set(2, -2),
            x.set(3, 4), x.set(3, -1), x.set(4, 0), x.set(-1, 0)),
            NONE, NONE, NONE, NONE, NONE, NONE, NONE, NONE, NONE, NONE);
        row("told", of(x.set(0, 3), x.set(1, 1), x.set(2, 0), x.set(3, 3), x.set(2, NONE)), 1, 2, 3, 4, 5);
        row("so they are", of(x.count(7), x.count(8), x.count(9), x.count(10)), 3, 1, NONE, 3);
        OtherSelves y = new OtherSelves();
        Due.taste(y, "y:g");
        row("no life", of(y.set(0, 1), y.set(1, 0), y.set(3, 1)), NONE, NONE, NONE);
    }

    /** All that ACTS change, in one number. */
    private static int acted(OtherSelves x) {
        int bits = x.count(7) + 4 * x.count(10) + 16 * (x.count(8) + 1) + 64 * (x.count(9) + 1);
        for (int i = 0; i < 6; i++) {
            bits |= x.branch(i / 3, i % 3, 5) << 10 + i;
        }
        return bits;
    }

    private static int act(OtherSelves x, int i) {
        switch (i % 5) {
            case 0: return x.open(0, i % 3, x.branch(0, i % 3, 5) == 0);
            case 1: return x.open(1, i % 3, x.branch(1, i % 3, 5) == 0);
            case 2: return x.set(0, (x.count(7) + 1) % 4);
            case 3: return x.set(3, (x.count(10) + 3) % 4);
            default: return x.set(1 + i % 2, x.count(8 + i % 2) == 0 ? NONE : 0);
        }
    }

    private static void undoesForty() {
        OtherSelves x = Due.at(LIFE, "y:g");
        int[] before = new int[200];
        int done = 0;
        for (int i = 0; i < 70; i++) {
            before[done] = acted(x);
            int answer = act(x, i);
            done += answer == NONE ? 0 : 1;
            due("how many can be undone", answer, answer == NONE ? NONE : Math.min(40, done));
        }
        for (int i = 1; i <= 40; i++) {
            due("undone", x.undo(), 40 - i);
            due("as it was, " + i + " acts back", acted(x), before[done - i]);
        }
        due("forty alone", x.undo(), NONE);
    }

    private static void promise14Undo() {
        OtherSelves x = Due.at(LIFE, "y:g");
        due("nothing yet", x.undo(), NONE);
        x.set(0, 2);
        x.open(1, 2, false);
        x.set(0, 1);
        x.set(2, 0);
        row("one by one", of(x.undo(), x.count(9), x.undo(), x.count(7), x.undo(), x.branch(1, 2, 5), x.undo(), x.count(7)),
            3, NONE, 2, 2, 1, 1, 0, 0);
        due("none left", x.undo(), NONE);
        for (int i = 0; i < 45; i++) {
            x.set(3, (i + 1) % 4);
        }
        due("forty at most", x.count(13), 40);
        for (int i = 39; i >= 0; i--) {
            due("undone", x.undo(), i);
        }
        due("the five before stay", x.count(10), 1);
        due("none any more", x.undo(), NONE);
        undoesForty();
        due("no life", new OtherSelves().undo(), NONE);
    }

    private static int[] odds(OtherSelves x) {
        return of(x.odds(0), x.odds(1), x.odds(2), x.odds(3), x.odds(4));
    }

    private static void promise15Odds() {
        OtherSelves x = Due.at(LIFE, "y:w", "y:0-b", "y:t*y", "y:g", "y:o+d");
        row("the lowest", odds(x), 1000000000, 0, 0, 0, 0);
        x.set(1, 0);
        row("by weight", odds(x), 0, 166666666, 500000000, 333333333, 0);
        x.set(1, 1);
        row("by number", odds(x), 1000000000, 0, 0, 0, 0);
        x.set(1, 2);
        row("alike: the lowest", odds(x), 1000000000, 0, 0, 0, 0);
        x.set(0, 1);
        x.open(0, 0, false);
        row("the lowest open", odds(x), 0, 166666666, 500000000, 333333333, 0);
        x.open(1, 1, false);
        row("open weights", odds(x), 0, 333333333, 0, 666666666, 0);
        x.set(0, 2);
        row("the highest", odds(x), 0, 0, 0, 0, 1000000000);
        x.open(0, 2, false);
        row("the highest open", odds(x), 0, 333333333, 0, 666666666, 0);
        x.call(0);
        x.set(0, 3);
        row("all alike", odds(x), 333333333, 55555555, 166666666, 111111111, 333333333);
        row("no such", of(x.odds(5), x.odds(-1), new OtherSelves().odds(0)), NONE, NONE, NONE);
        due("a leaf alone", Due.at("l").odds(0), 1000000000);
        OtherSelves y = Due.at("fy7(g1:l;g1j2o3:l;g1j2o4w2:l)", "y:y=7&t=2?o;y:g+j");
        y.set(1, 0);
        row("g j y t", of(y.odds(0), y.odds(1), y.odds(2)), 0, 1000000000, 0);
        y.open(0, 0, false);
        row("o, two open", of(y.odds(0), y.odds(1), y.odds(2)), 0, 0, 1000000000);
    }

    private static void promise16Mean() {
        OtherSelves x = Due.at(LIFE, "y:0-g*7");
        row("of the first", of(x.mean(0), x.mean(1), x.mean(2), x.mean(3)), 15, 51, 2, 64);
        x.set(0, 3);
        row("all alike", of(x.mean(0), x.mean(1), x.mean(2), x.mean(3)), 18, 45, 0, 63);
        x.set(2, 0);
        due("below 0, cut towards 0", x.mean(3), -126);
        row("no such", of(x.mean(4), x.mean(-1), new OtherSelves().mean(0)), HIDDEN, HIDDEN, HIDDEN);
    }

    private static void promise17Worth() {
        OtherSelves x = Due.at(LIFE, "y:g=15?1;y:d=1|y>59?2;y:!(t=5)?3", "y:9999*9999*9999-1-1", "y:0-9999*9999-5+1",
            "y:[0-7]/2*10+7/0+b+w", "y:g+j*o-y/t", "y:9999*9999/9999");
        row("joy and goods less owes", of(x.worth(0), x.worth(1), x.worth(2), x.worth(3), x.worth(4)), 64, 83, 92, 22, 58);
        x.set(2, 0);
        row("clauses", of(x.worth(0), x.worth(1), x.worth(2), x.worth(3), x.worth(4)), 1, 3, 2, 2, 0);
        x.set(2, 1);
        due("within a million", x.worth(0), 999998);
        x.set(2, 2);
        due("above minus a million", x.worth(0), -999999);
        x.set(2, 3);
        due("towards 0, by 0", x.worth(0), -30);
        x.set(2, 4);
        row("letters", of(x.worth(0), x.worth(2)), 15 + 102 - 8, 43 + 50 - 8);
        x.set(2, 5);
        due("behind each sign", x.worth(0), 100);
        row("no such", of(x.worth(5), x.worth(-1), x.worth(LEAST), new OtherSelves().worth(0)),
            HIDDEN, HIDDEN, HIDDEN, HIDDEN);
    }

    private static void promise18Value() {
        OtherSelves x = Due.at(LIFE, "y:0-g");
        row("forks", of(x.value(0, NONE), x.value(1, NONE)), 6716, 6716);
        row("branches", of(x.value(0, 0), x.value(0, 1), x.value(0, 2), x.value(1, 1), x.value(1, 2)),
            6400, 6716, 5800, 9200, 2200);
        x.open(0, 1, false);
        row("one closed", of(x.value(0, NONE), x.value(0, 1)), 6400, 6716);
        x.open(1, 0, false);
        due("open weights", x.value(1, NONE), (3 * 9200 + 2 * 2200) / 5);
        x.set(2, 0);
        due("below 0, cut towards 0", x.value(1, NONE), -(3 * 4300 + 2 * 1300) / 5);
        x.open(1, 1, false);
        x.open(1, 0, true);
        due("cut towards 0", x.value(1, NONE), -1966);
        row("no such", of(x.value(2, NONE), x.value(-1, NONE), x.value(0, 3), x.value(0, -2), x.value(2, 0),
            Due.at("l").value(0, NONE), new OtherSelves().value(0, 0)),
            HIDDEN, HIDDEN, HIDDEN, HIDDEN, HIDDEN, HIDDEN, HIDDEN);
    }

    private static void promise19Advice() {
        OtherSelves x = Due.at(LIFE, "y:7");
        row("the greatest value", of(x.advice(0), x.advice(1)), 1, 1);
        x.open(0, 1, false);
        x.open(1, 1, false);
        row("open ones alone", of(x.advice(0), x.advice(1)), 0, 0);
        x.set(2, 0);
        x.open(0, 0, false);
        x.open(0, 1, true);
        row("of several the lowest", of(x.advice(0), x.advice(1)), 1, 0);
        row("no such", of(x.advice(2), x.advice(-1), new OtherSelves().advice(0)), NONE, NONE, NONE);
    }

    private static void promise20Regret() {
        OtherSelves x = Due.at(LIFE);
        row("regrets", of(x.regret(0, 0), x.regret(4, 0), x.regret(1, 0), x.regret(3, 1)), 316, 916, 0, 0);
        row("not on its way", of(x.regret(0, 1), x.regret(4, 1)), NONE, NONE);
        row("no such", of(x.regret(5, 0), x.regret(-1, 0), x.regret(0, 2), x.regret(0, -1), x.regret(0, LEAST)),
            NONE, NONE, NONE, NONE, NONE);
        x.open(0, 1, false);
        x.open(0, 0, false);
        row("never below 0", of(x.regret(0, 0), x.regret(1, 0), x.regret(4, 0)), 0, 0, 0);
    }

    private static void promise21Sore() {
        OtherSelves x = Due.at(LIFE);
        row("the fork", of(x.sore(0, 0), x.sore(4, 0), x.sore(1, 0)), 0, 0, 0);
        row("all together", of(x.sore(0, 1), x.sore(4, 1), x.sore(1, 1)), 316, 916, 0);
        row("no such", of(x.sore(5, 0), x.sore(-1, 1), x.sore(0, 2), x.sore(0, -1)), HIDDEN, HIDDEN, HIDDEN, HIDDEN);
        row("no fork", of(Due.at("l").sore(0, 0), Due.at("l").sore(0, 1)), NONE, 0);
        OtherSelves y = Due.at("f(j5:l;:f(:f(:lj1;:lj9);j9:lj2))");
        row("the greatest", of(y.sore(1, 0), y.sore(1, 1), y.sore(2, 0), y.sore(2, 1), y.sore(3, 0), y.sore(3, 1)),
            0, 4400 + 200 + 800, 0, 4400 + 200, 0, 4400);
        y.open(0, 0, false);
        row("of several the lowest", of(y.sore(1, 0), y.sore(1, 1), y.sore(2, 0), y.sore(2, 1), y.sore(3, 0), y.sore(3, 1)),
            2, 200 + 800, 1, 200, 0, 0);
    }

    private static void promise22Apology() {
        OtherSelves x = Due.at(LIFE);
        row("apologies", of(x.apology(0, 1), x.apology(1, 0), x.apology(1, 2), x.apology(0, 4), x.apology(3, 4)),
            -316, 316, -900, 600, 916);
        x.open(1, 1, false);
        due("with one closed", x.apology(0, 1), 6400 - (8300 + 2 * 2200) / 3);
        row("no such, alike", of(x.apology(1, 1), x.apology(1, 5), x.apology(-1, 1), new OtherSelves().apology(0, 1)),
            HIDDEN, HIDDEN, HIDDEN, HIDDEN);
    }

    private static int[] shares(OtherSelves x, int pot) {
        return of(x.share(0, pot), x.share(1, pot), x.share(2, pot), x.share(3, pot), x.share(4, pot));
    }

    private static void promise23Share() {
        OtherSelves x = Due.at(LIFE);
        row("shares", shares(x, 100), 26, 6, 0, 6, 62);
        row("a small pot", shares(x, 3), 1, 1, 0, 0, 1);
        row("no pot", shares(x, 0), 0, 0, 0, 0, 0);
        row("a great pot", shares(x, 9999), 2500, 625, 0, 625, 6249);
        x.set(3, 2);
        row("the dead share", shares(x, 100), 24, 6, 6, 6, 58);
        x.set(3, 1);
        row("by another law not", shares(x, 100), 26, 6, 0, 6, 62);
        x.open(0, 0, false);
        row("not there", shares(x, 100), NONE, 9, 0, 8, 83);
        row("no such", of(x.share(5, 1), x.share(-1, 1), x.share(1, -1), x.share(1, 10000), x.share(1, LEAST)),
            NONE, NONE, NONE, NONE, NONE);
        OtherSelves y = Due.at("ld1");
        due("all weights are 0", y.share(0, 5), NONE);
        y.set(3, 2);
        due("the dead one has all", y.share(0, 5), 5);
        due("no life", new OtherSelves().share(0, 0), NONE);
    }

    private static void promise24Demand() {
        OtherSelves x = Due.at(LIFE);
        row("demands", of(x.demand(0), x.demand(1), x.demand(2), x.demand(3), x.demand(4)), 7, 26, 0, 6, 4);
        x.set(3, 1);
        due("by that law still not", x.demand(2), 0);
        x.set(3, 3);
        due("the dead", x.demand(2), 21);
        x.open(1, 1, false);
        row("not there, no such", of(x.demand(2), x.demand(5), x.demand(-1), new OtherSelves().demand(0)),
            NONE, NONE, NONE, NONE);
        row("tempers", of(Due.at("lg99t0").demand(0), Due.at("lg99t9").demand(0), Due.at("lg9t9").demand(0)), 99, 9, 0);
    }

    private static void promise25Terms() {
        OtherSelves x = Due.at(LIFE);
        row("terms", of(x.terms(50), x.terms(43), x.terms(40), x.terms(0), x.terms(9999)), 7, 0, -3, -43, 9956);
        x.open(0, 0, false);
        due("those there", x.terms(43), 7);
        x.set(3, 2);
        due("the dead", x.terms(43), -14);
        row("out of bounds, no life", of(x.terms(-1), x.terms(10000), x.terms(LEAST), new OtherSelves().terms(1)),
            HIDDEN, HIDDEN, HIDDEN, HIDDEN);
    }

    private static void promise26Away() {
        OtherSelves x = Due.at(LIFE);
        row("away", of(x.away(43), x.away(40), x.away(36), x.away(35), x.away(16), x.away(0), x.away(9999)),
            0, 1, 1, 2, 3, 27, 0);
        x.open(0, 0, false);
        row("those there", of(x.away(36), x.away(35), x.away(0)), 0, 2, 26);
        x.set(3, 2);
        row("the dead", of(x.away(56), x.away(31), x.away(10)), 2, 2, 6);
        row("out of bounds, no life", of(x.away(-1), x.away(10000), new OtherSelves().away(1)), NONE, NONE, NONE);
        OtherSelves y = Due.at("f(:lg20;:f(:lg40;:f(:lg60;:lg60)))");
        row("of several the least", of(y.away(60), y.away(50), y.away(40), y.away(30)), 4, 5, 6, 12);
    }

    private static void promise27Elected() {
        OtherSelves x = Due.at(LIFE);
        due("no tastes", x.elected(0), NONE);
        Due.taste(x, "y:g");
        row("one", of(x.elected(0), x.elected(1)), 0, 4);
        Due.taste(x, "y:j");
        Due.taste(x, "y:y");
        row("elected", of(x.elected(0), x.elected(1)), 1, 3);
        x.set(3, 1);
        row("with the dead", of(x.elected(0), x.elected(1)), 1, 4);
        x.set(3, 2);
        due("by that law not", x.elected(1), 3);
        x.open(0, 0, false);
        due("those there", x.elected(1), 2);
        row("no such what", of(x.elected(2), x.elected(-1)), NONE, NONE);
        row("nobody votes", of(Due.at("ld1", "y:g").elected(0), Due.at("ld1", "y:g").elected(1)), NONE, NONE);
        OtherSelves y = new OtherSelves();
        Due.taste(y, "y:g");
        due("no life", y.elected(0), NONE);
        OtherSelves z = Due.at("f(:lg1;:lg2)", "y:g=1?1", "y:g=2?1", "y:g");
        row("of several the lowest", of(z.elected(0), z.elected(1)), 0, 1);
    }

    private static void promise28Duel() {
        OtherSelves x = Due.at(LIFE, "y:g", "y:j", "y:y");
        row("duels", of(x.duel(1, 0), x.duel(0, 1), x.duel(0, 2), x.duel(1, 2), x.duel(2, 2)), 2, -2, -4, 2, 0);
        x.set(3, 1);
        row("with the dead", of(x.duel(1, 0), x.duel(0, 2)), 3, -3);
        x.open(0, 0, false);
        due("those there", x.duel(1, 0), 2);
        row("no such", of(x.duel(0, 3), x.duel(3, 0), x.duel(-1, 0), x.duel(0, LEAST)), HIDDEN, HIDDEN, HIDDEN, HIDDEN);
        OtherSelves y = new OtherSelves();
        Due.taste(y, "y:g");
        due("no life", y.duel(0, 0), HIDDEN);
        due("nobody votes", Due.at("ld1", "y:g").duel(0, 0), 0);
    }

    // Three SELVES with goods 1, 2, 3; each TASTE gives them three worths.
    private static final String THREE = "f(:lg1;:lg2;:lg3)";

    private static String worths(int one, int two, int three) {
        return "y:g=1?" + one + ";y:g=2?" + two + ";y:" + three;
    }

    private static void promise29Beats() {
        OtherSelves x = Due.at(LIFE, "y:g");
        due("fewer than two", x.beats(), NONE);
        Due.taste(x, "y:j");
        due("the second", x.beats(), 1);
        Due.taste(x, "y:y");
        due("still", x.beats(), 1);
        Due.taste(x, "y:j");
        due("not when alike", x.beats(), NONE);
        due("a ring", Due.at(THREE, worths(3, 1, 2), worths(2, 3, 1), worths(1, 2, 3)).beats(), NONE);
        due("nobody votes", Due.at("ld1", "y:0", "y:g").beats(), NONE);
        OtherSelves y = new OtherSelves();
        Due.taste(y, "y:g");
        Due.taste(y, "y:j");
        due("no life", y.beats(), NONE);
    }

    private static void promise30Ring() {
        due("a ring", Due.at(THREE, worths(3, 1, 2), worths(2, 3, 1), worths(1, 2, 3)).ring(), 12);
        due("the other way round", Due.at(THREE, worths(3, 1, 2), worths(1, 2, 3), worths(2, 3, 1)).ring(), 21);
        due("the last one has no more", Due.at(THREE, worths(3, 3, 3), worths(2, 2, 4), worths(1, 3, 3)).ring(), NONE);
        due("behind others", Due.at(THREE, "y:0", worths(3, 1, 2), worths(1, 2, 3), worths(2, 3, 1)).ring(), 132);
        due("the least of several", Due.at(THREE, worths(3, 1, 2), worths(1, 2, 3), worths(1, 2, 3), worths(2, 3, 1),
            worths(2, 3, 1)).ring(), 31);
        row("none", of(Due.at(LIFE, "y:g", "y:j", "y:y").ring(), Due.at(LIFE).ring(), new OtherSelves().ring()),
            NONE, NONE, NONE);
    }

    private static void promise31All() {
        OtherSelves x = Due.at(LIFE);
        row("all", of(x.all(3), x.all(6), x.all(14), x.all(31), x.all(17), x.all(1), x.all(0)), 0, 6, 2, 0, 1, 1, 1023);
        x.open(0, 0, false);
        due("there or not", x.all(17), 1);
        row("no such", of(x.all(32), x.all(-1), x.all(LEAST), x.all(MOST), new OtherSelves().all(0)),
            NONE, NONE, NONE, NONE, NONE);
    }

    private static void promise32Telling() {
        OtherSelves x = Due.at(LIFE);
        row("telling", of(x.telling(0), x.telling(1), x.telling(3)), NONE, NONE, 5);
        x.open(0, 2, false);
        row("a twin less", of(x.telling(0), x.telling(4)), 1, NONE);
        x.open(1, 0, false);
        row("the fewest, the least", of(x.telling(2), x.telling(3), x.telling(0)), 4, 5, 1);
        x.open(0, 0, false);
        row("one number does", of(x.telling(2), x.telling(3), x.telling(0)), 4, 4, NONE);
        row("no such", of(x.telling(5), x.telling(-1), new OtherSelves().telling(0)), NONE, NONE, NONE);
        due("alone", Due.at("l").telling(0), 0);
    }

    private static void promise33Twins() {
        OtherSelves x = Due.at(LIFE);
        row("twins", of(x.twins(0), x.twins(1), x.twins(2), x.twins(3), x.twins(4)), 16, 4, 2, 0, 1);
        x.open(0, 2, false);
        row("others there", of(x.twins(0), x.twins(4)), 0, 1);
        row("no such", of(x.twins(5), x.twins(-1), new OtherSelves().twins(0)), NONE, NONE, NONE);
    }

    private static void promise34Sentence() {
        OtherSelves x = Due.at(LIFE);
        due("one sentence", x.sentence(), 3);
        x.open(0, 0, false);
        x.open(0, 2, false);
        due("of those there", x.sentence(), 2);
        x.open(1, 2, false);
        due("the least", x.sentence(), 2);
        row("one has none", of(Due.at("f(x1:l;:l)").sentence(), Due.at("l").sentence(), new OtherSelves().sentence()),
            NONE, NONE, NONE);
        OtherSelves y = Due.at("f(x1:l;:l)");
        y.open(0, 1, false);
        due("he isn't there", y.sentence(), 2);
    }

    private static void promise35Leads() {
        OtherSelves x = Due.at(LIFE);
        row("leads", of(x.leads(2, 1), x.leads(1, 2), x.leads(0, 0), x.leads(9, 0), x.leads(0, 9)), 1, 0, 1, 1, 0);
        x.open(1, 2, false);
        due("of those there", x.leads(1, 2), 1);
        row("no such", of(x.leads(10, 0), x.leads(0, 10), x.leads(-1, 0), x.leads(0, -1), new OtherSelves().leads(0, 0)),
            NONE, NONE, NONE, NONE, NONE);
    }

    private static void promise36Clue() {
        OtherSelves x = Due.at(LIFE);
        row("out of bounds", of(x.clue(6, 0, 0), x.clue(-1, 0, 0), x.clue(0, 100, 0), x.clue(0, -1, 0), x.clue(0, 0, 100),
            x.clue(0, 0, -1), new OtherSelves().clue(0, 0, 0)), NONE, NONE, NONE, NONE, NONE, NONE, NONE);
        for (int i = 1; i <= 12; i++) {
            due("a clue more", x.clue(3, 0, 99), i);
        }
        due("there are twelve", x.clue(3, 0, 0), NONE);
        due("twelve", x.count(11), 12);
    }

    private static int by(int kind, int u, int v) {
        OtherSelves x = Due.at(LIFE);
        x.open(0, 1, false);
        x.clue(kind, u, v);
        return x.can(0);
    }

    private static void promise37Can() {
        row("each kind", of(by(0, 1, 0), by(0, 9, 0), by(0, 99, 0), by(1, 1, 0), by(1, 99, 0), by(2, 0, 0), by(2, 1, 0),
            by(2, 2, 0), by(3, 15, 0), by(3, 16, 0), by(4, 40, 0), by(4, 41, 0), by(4, 60, 99), by(4, 61, 0)),
            14, 0, 0, 17, 31, 31, 14, 0, 7, 6, 31, 8, 8, 0);
        row("parting", of(by(5, 1, 1), by(5, 1, 0), by(5, 0, 0), by(5, 0, 1), by(5, 5, 0), by(5, 99, 0), by(5, 1, 2)),
            12, 17, 30, 0, 0, 0, 0);
        OtherSelves y = Due.at("f(x9:l;x8:l)");
        y.clue(0, 9, 0);
        due("the last fact", y.can(0), 1);
        OtherSelves x = Due.at(LIFE);
        row("no clue", of(x.can(0), x.can(1)), 31, 0);
        x.set(0, 3);
        x.clue(0, 1, 0);
        row("the likeliest", of(x.can(0), x.can(1)), 14, 2);
        x.open(1, 1, false);
        x.open(0, 1, false);
        row("as if all were open", of(x.can(0), x.can(1)), 14, 2);
        x.set(0, 1);
        row("alike: the lowest", of(x.can(0), x.can(1)), 14, 1);
        x.clue(1, 2, 0);
        row("two clues", of(x.can(0), x.can(1)), 8, 3);
        x.clue(1, 1, 0);
        row("nobody", of(x.can(0), x.can(1)), 0, NONE);
        row("no such", of(x.can(2), x.can(-1), new OtherSelves().can(0)), NONE, NONE, NONE);
    }

    private static OtherSelves three() {
        OtherSelves x = new OtherSelves();
        Due.life(x, "fy10(x1:l;x2:l)");
        Due.life(x, "fy10(x1:l;x1:fy10(x2:l;:l))");
        Due.life(x, "fy11(x1:l;x1:l)");
        return x;
    }

    private static void promise38Cross() {
        OtherSelves x = three();
        row("cross", of(x.cross(0, 100), x.cross(1, 101), x.cross(0, 101), x.cross(1, 100), x.cross(0, 200), x.cross(101, 1)),
            2, 4, 2, 0, 0, 4);
        x.call(1);
        x.open(0, 0, false);
        due("whatever is open", x.cross(0, 100), 2);
        row("no such, one life", of(x.cross(0, 1), x.cross(0, 0), x.cross(0, 102 + 1), x.cross(2, 100), x.cross(-1, 100),
            x.cross(0, 300), x.cross(0, LEAST), x.cross(MOST, 0)), NONE, NONE, NONE, NONE, NONE, NONE, NONE, NONE);
        Due.tape(x, "l");
        x.fault(0);
        due("a text that is only looked at is no life", x.cross(0, 300), NONE);
        OtherSelves y = Due.at("l");
        Due.tape(y, "l");
        y.fault(0);
        due("nor is it the second", y.cross(0, 100), NONE);
        due("no life", new OtherSelves().cross(0, 100), NONE);
    }

    private static void promise39Meetings() {
        OtherSelves x = three();
        row("meetings", of(x.meetings(0, 1, 0), x.meetings(0, 1, 1), x.meetings(1, 0, 0), x.meetings(1, 0, 1)), 4, 0, 4, 1);
        row("nobody", of(x.meetings(0, 2, 0), x.meetings(0, 2, 1)), 0, NONE);
        row("no such, alike", of(x.meetings(0, 0, 0), x.meetings(0, 3, 0), x.meetings(-1, 0, 0), x.meetings(0, 1, 2),
            x.meetings(0, 1, -1)), NONE, NONE, NONE, NONE, NONE);
    }

    private static void promise40Birthday() {
        OtherSelves x = Due.at(LIFE);
        x.set(0, 3);
        row("by draws", of(x.birthday(0), x.birthday(1), x.birthday(2), x.birthday(3), x.birthday(5), x.birthday(11),
            x.birthday(-1)), 4, 4, 1, 4, 3, 2, 3);
        x.set(0, 1);
        due("by the policy", x.birthday(0), 0);
        x.open(0, 0, false);
        due("the first draw is at the chance", x.birthday(0), 3);
        x.open(1, 1, false);
        due("open weights", x.birthday(0), 3);
        for (int i = 11; i <= 60; i++) {
            due("one more", x.birthday(0), 3);
        }
        row("sixty at most", of(x.birthday(0), x.count(12)), NONE, 60);
        due("no life", new OtherSelves().birthday(0), NONE);
        row("a leaf alone", of(Due.at("l").birthday(0), Due.at("l").birthday(Long.MIN_VALUE)), 0, 0);
    }

    private static void promise41Born() {
        OtherSelves x = Due.at(LIFE);
        x.set(0, 3);
        x.birthday(0);
        x.birthday(2);
        x.birthday(5);
        row("born", of(x.born(0), x.born(1), x.born(2)), 4, 1, 3);
        row("no such", of(x.born(3), x.born(-1), x.born(LEAST), x.born(60), new OtherSelves().born(0)),
            NONE, NONE, NONE, NONE, NONE);
    }

    private static void promise42Take() {
        OtherSelves x = Due.at(LIFE);
        due("none yet", x.take(), NONE);
        x.set(0, 3);
        x.birthday(0);
        x.birthday(2);
        row("the latest", of(x.take(), x.born(0), x.born(1), x.take(), x.take()), 1, 4, NONE, 0, NONE);
        for (int i = 0; i < 60; i++) {
            x.birthday(2);
        }
        row("room again", of(x.take(), x.birthday(0), x.born(59)), 59, 4, 4);
    }

    private static void promise43Town() {
        OtherSelves x = Due.at(LIFE);
        x.set(0, 3);
        row("ninety-nine", of(x.town(99, 7, 0), x.town(99, 7, 1), x.town(99, 7, 2), x.town(99, 7, 3), x.town(99, 7, 4)),
            29, 5, 9, 13, 43);
        row("ten", of(x.town(10, 7, 0), x.town(10, 7, 3), x.town(10, 7, 4), x.town(1, 7, 4)), 1, 2, 5, 1);
        due("none is put by", x.count(12), 0);
        row("no such, out of bounds", of(x.town(0, 7, 0), x.town(100, 7, 0), x.town(-1, 7, 0), x.town(1, 7, 5),
            x.town(1, 7, -1), new OtherSelves().town(1, 7, 0)), NONE, NONE, NONE, NONE, NONE, NONE);
    }

    private static void promise44Image() {
        OtherSelves x = Due.at(LIFE);
        due("an image", x.image(), 5);
        x.open(0, 1, false);
        row("instead of it", of(x.image(), x.count(13)), 2, 1);
        x.open(0, 1, true);
        row("the latter one", of(x.back(), x.branch(0, 1, 5)), 2, 0);
        due("no life", new OtherSelves().image(), NONE);
    }

    private static void promise45Back() {
        OtherSelves x = Due.at(LIFE, "y:g");
        due("no image", x.back(), NONE);
        x.set(0, 2);
        x.set(1, 0);
        x.set(2, 0);
        x.set(3, 1);
        x.open(1, 0, false);
        x.image();
        x.set(0, 3);
        x.set(1, NONE);
        x.set(2, NONE);
        x.set(3, 2);
        x.open(1, 0, true);
        x.open(0, 1, false);
        x.clue(0, 1, 1);
        x.birthday(1);
        row("back", of(x.back(), x.count(6), x.count(13), x.undo()), 4, 4, 0, NONE);
        row("so again", of(x.count(7), x.count(8), x.count(9), x.count(10), x.branch(1, 0, 5), x.branch(0, 1, 5)),
            2, 0, 0, 1, 0, 1);
        row("others stay", of(x.count(11), x.count(12)), 1, 1);
        x.set(0, 0);
        row("once more", of(x.back(), x.count(7)), 4, 2);
    }

    private static void promise46Count() {
        OtherSelves x = Due.at(LIFE, "y:g", "y:j");
        Due.life(x, "l");
        x.call(0);
        x.open(0, 0, false);
        x.set(0, 1);
        x.set(1, 1);
        x.set(2, 0);
        x.set(3, 3);
        x.clue(0, 0, 0);
        x.clue(0, 0, 0);
        x.birthday(0);
        x.feed(1, 2, 3, 0, 0);
        row("counts", counts(x), 2, 0, 5, 2, 2, 3, 4, 1, 1, 0, 3, 2, 1, 5);
        row("others", of(x.count(14), x.count(-1), x.count(LEAST), x.count(MOST)), HIDDEN, HIDDEN, HIDDEN, HIDDEN);
    }

    private static void upTo15() {
        promise1New();
        promise2Feed();
        promise3End();
        promise4Fault();
        promise5Text();
        promise6Call();
        promise7Self();
        promise8Way();
        promise9Fork();
        promise10Branch();
        promise11Part();
        promise12Open();
        promise13Set();
        promise14Undo();
        promise15Odds();
    }

    private static void upTo30() {
        promise16Mean();
        promise17Worth();
        promise18Value();
        promise19Advice();
        promise20Regret();
        promise21Sore();
        promise22Apology();
        promise23Share();
        promise24Demand();
        promise25Terms();
        promise26Away();
        promise27Elected();
        promise28Duel();
        promise29Beats();
        promise30Ring();
    }

    private static void upTo46() {
        promise31All();
        promise32Telling();
        promise33Twins();
        promise34Sentence();
        promise35Leads();
        promise36Clue();
        promise37Can();
        promise38Cross();
        promise39Meetings();
        promise40Birthday();
        promise41Born();
        promise42Take();
        promise43Town();
        promise44Image();
        promise45Back();
        promise46Count();
    }

    public static void main(String[] args) {
        upTo15();
        upTo30();
        upTo46();
        DUE.close("PromiseTests");
    }
}
