import java.util.ArrayList;
import java.util.List;
import java.util.NoSuchElementException;

/**
 * Tests of one sentence each. What is asked, and what is refused, is asked twice and must leave everything as it was:
 * an object that was made likewise, but not asked, answers all the same.
 */
final class Edge {
    /** Makes the object on which a call is tried: the same one each time. */
    interface Made {
        OtherSelves made();
    }

    interface Ask {
        long of(OtherSelves x);
    }

    static final int NONE = -1;
    static final int HIDDEN = -2000000000;
    static final int LEAST = Integer.MIN_VALUE;
    static final int MOST = Integer.MAX_VALUE;
    /** Stands for the answer of a call of self that throws. */
    static final long THROWS = Long.MIN_VALUE;

    // SELVES 0 .. 4: goods 15 33 43 13 8, joy 51 50 50 9 50, owes 2 0 1 0 0, facts 0, 1 2, 1 2, 1, 0; 2 is dead.
    // By JOY and GOODS less OWES they are worth 64 83 92 22 58.
    static final String FIVE =
        "fy10(g5j1o2x0:l;w2g3x1:fk1y15(w1x2:lg30t2;w3x2o1:ld1g40;w2:ly60j9);x0:lg8)";
    private static final String[] TASTES = {"y:g", "y:j", "y:0-g", "y:t", "y:d+o", "y:w"};

    private final Due due = new Due();
    private String sentence = "";

    /** Names the sentence to which all that follows belongs. */
    void sentence(String promise, String words) {
        sentence = promise + ", \"" + words + "\": ";
    }

    void is(String call, long got, long want) {
        due.due(sentence + call, got, want);
    }

    void is(String call, boolean got, boolean want) {
        due.due(sentence + call, got, want);
    }

    /** A question: the answer, asked twice; it changes nothing. */
    void asked(Made made, String call, Ask ask, long want) {
        OtherSelves x = made.made();
        is(call, ask.of(x), want);
        is(call + ", asked twice", ask.of(x), want);
        is(call + " changes nothing", seen(made, ask, 2).equals(seen(made, ask, 0)), true);
    }

    /** A call that is refused by this answer, and changes nothing. */
    void refused(Made made, String call, Ask ask, long want) {
        asked(made, call + " is refused", ask, want);
    }

    void close(String name) {
        due.close(name);
    }

    static long self(OtherSelves x, int self, int what) {
        try {
            return x.self(self, what);
        } catch (NoSuchElementException e) {
            return THROWS;
        }
    }

    /** Values outside of least .. most, next to it and far away, on either side. */
    static int[] outside(int least, int most) {
        return new int[] {LEAST, LEAST + 1, least - 2, least - 1, most + 1, most + 2, most + 32, MOST - 1, MOST};
    }

    static OtherSelves empty() {
        return new OtherSelves();
    }

    /** Two TASTES and a TAPE, but no LIFE. */
    static OtherSelves noLife() {
        OtherSelves x = new OtherSelves();
        Due.taste(x, "y:g");
        Due.taste(x, "y:j");
        Due.tape(x, "lg7");
        return x;
    }

    static OtherSelves leaf() {
        OtherSelves x = Due.at("l", "y:g", "y:j");
        Due.tape(x, "lg7");
        return x;
    }

    /** One LIFE, two TASTES, one of each else. */
    static OtherSelves five() {
        OtherSelves x = Due.at(FIVE, "y:g", "y:j");
        x.set(0, 3);
        x.image();
        x.set(3, 1);
        x.open(1, 1, false);
        x.clue(3, 1, 0);
        x.birthday(2);
        Due.tape(x, "y:t*2");
        return x;
    }

    /** All that can be full is full: LIVES, TASTES, ACTS, CLUES, BIRTHDAYS, TAPE. */
    static OtherSelves full() {
        OtherSelves x = new OtherSelves();
        Due.life(x, "lg1j2");
        Due.life(x, FIVE);
        Due.life(x, "fy10(x1:l;:l)");
        x.call(1);
        for (String taste : TASTES) {
            Due.taste(x, taste);
        }
        x.set(1, 3);
        x.set(2, 1);
        x.image();
        for (int i = 0; i < 38; i++) {
            x.set(3, (i + 1) % 4);
        }
        x.set(0, 3);
        x.set(2, 2);
        x.open(1, 1, false);
        for (int i = 0; i < 12; i++) {
            x.clue(1, 9, 0);
        }
        for (int i = 0; i < 60; i++) {
            x.birthday(i);
        }
        x.end(0);
        for (int i = 0; i < 12; i++) {
            x.feed(0x20202020, 0x20202020, 0x20202020, 0x20202020, i == 11 ? 0x206c6732 : 0x20202020);
        }
        return x;
    }

    /** All that can be seen of an object behind the call; several objects, as none takes more than 512 calls. */
    private static List<Long> seen(Made made, Ask ask, int times) {
        List<Long> all = new ArrayList<>();
        seeState(behind(made, ask, times), all);
        seeUndone(behind(made, ask, times), all);
        seeBack(behind(made, ask, times), all);
        seeTape(behind(made, ask, times), all);
        seeLives(behind(made, ask, times), all);
        return all;
    }

    private static OtherSelves behind(Made made, Ask ask, int times) {
        OtherSelves x = made.made();
        for (int i = 0; i < times; i++) {
            ask.of(x);
        }
        return x;
    }

    private static void seeState(OtherSelves x, List<Long> all) {
        for (int what = 0; what < 14; what++) {
            all.add((long) x.count(what));
        }
        for (int self = 0; self < 5; self++) {
            for (int what = 0; what < 9; what++) {
                all.add(self(x, self, what));
            }
        }
        for (int i = 0; i < 61; i++) {
            all.add((long) x.born(i));
        }
        all.add((long) x.can(0));
        all.add((long) x.can(1));
    }

    private static void seeOpen(OtherSelves x, List<Long> all) {
        for (int fork = 0; fork < 2; fork++) {
            for (int branch = 0; branch < 3; branch++) {
                all.add((long) x.branch(fork, branch, 5));
            }
        }
    }

    private static void seeUndone(OtherSelves x, List<Long> all) {
        seeOpen(x, all);
        for (int i = 0; i < 41; i++) {
            all.add((long) x.undo());
            all.add((long) x.count(7));
            all.add((long) x.count(10));
            all.add((long) x.fork(1, 3));
        }
        seeOpen(x, all);
        all.add((long) x.count(8));
        all.add((long) x.count(9));
    }

    private static void seeBack(OtherSelves x, List<Long> all) {
        all.add((long) x.back());
        for (int what = 6; what < 14; what++) {
            all.add((long) x.count(what));
        }
        seeOpen(x, all);
        all.add((long) x.take());
        all.add((long) x.birthday(7));
        all.add((long) x.clue(0, 1, 0));
        all.add((long) x.can(0));
    }

    private static void seeTape(OtherSelves x, List<Long> all) {
        int length = x.count(5);
        for (int n = length; n >= 0 && n > length - 20; n--) {
            x.end(n);
            all.add((long) x.fault(0));
            all.add((long) x.fault(1));
        }
    }

    private static void seeLives(OtherSelves x, List<Long> all) {
        for (int life = 0; life < 3; life++) {
            all.add((long) x.call(life));
            all.add((long) x.count(3));
            all.add(self(x, 0, 0));
            all.add((long) x.fork(0, 0));
        }
        x.call(0);
        for (int taste = 0; taste < 6; taste++) {
            all.add((long) x.set(2, taste));
            all.add((long) x.worth(0));
        }
        all.add((long) x.text(1));
        all.add((long) x.text(0));
        all.add(self(x, 0, 0));
        all.add((long) x.count(9));
    }
}
