import java.util.NoSuchElementException;

/** Promises 6 to 46: random runs of calls on random LIVES and TASTES, each answer against the Model's. */
public final class ModelTests {
    private static final Due DUE = new Due();
    private static final int RUNS = 600;
    private static final int CALLS = 490;

    private final Texts chance;
    private final OtherSelves x = new OtherSelves();
    private final Model model = new Model();
    private final StringBuilder told = new StringBuilder();

    private ModelTests(int run) {
        chance = new Texts(run);
        told.append("run ").append(run);
    }

    private int draw(int m) {
        return chance.draw(m);
    }

    /** Mostly 0 .. m - 1, at times beyond. */
    private int some(int m) {
        switch (draw(25)) {
            case 0: return -1;
            case 1: return m + draw(3);
            case 2: return draw(2) == 0 ? Integer.MIN_VALUE : Integer.MAX_VALUE;
            default: return draw(Math.max(1, m));
        }
    }

    private int self() {
        return some(x.count(2));
    }

    private int fork() {
        return some(x.count(3));
    }

    private int pot() {
        return draw(2) == 0 ? some(10000) : some(300);
    }

    private long seed() {
        return draw(2) == 0 ? draw(10) : (long) draw(1 << 30) << 34 ^ draw(1 << 30);
    }

    private int code() {
        return draw(30) == 0 ? -1 : 100 * some(3) + some(9);
    }

    private void due(String call, long got, long want) {
        DUE.due(told + " " + call, got, want);
    }

    private void tell() {
        if (draw(3) == 0) {
            Texts.Node life = chance.life(3 + draw(8));
            int want = model.tellLife(life);
            due("life " + life, Due.life(x, life.toString()), want);
            told.append("\n").append(life);
        } else {
            Texts.Part taste = chance.taste(draw(4));
            int want = model.tellTaste(taste);
            due("taste " + taste, Due.taste(x, taste.toString()), want);
            told.append("\n").append(taste);
        }
        x.end(0);
    }

    private int selfOrHidden(int a, int what) {
        try {
            return x.self(a, what);
        } catch (NoSuchElementException e) {
            return OtherSelves.HIDDEN;
        }
    }

    private void act() {
        int a = fork();
        int b = some(4);
        switch (draw(8)) {
            case 0: case 1: case 2:
                boolean is = draw(3) == 0;
                due("open(" + a + ", " + b + ", " + is + ")", x.open(a, b, is), model.open(a, b, is));
                break;
            case 3: case 4: case 5:
                int what = some(4);
                int v = draw(6) == 0 ? -1 : some(what == 1 || what == 2 ? x.count(4) : 4);
                due("set(" + what + ", " + v + ")", x.set(what, v), model.set(what, v));
                break;
            case 6: due("undo()", x.undo(), model.undo()); break;
            default:
                switch (draw(6)) {
                    case 0: due("image()", x.image(), model.image()); break;
                    case 1: due("back()", x.back(), model.back()); break;
                    case 2: a = some(3); due("call(" + a + ")", x.call(a), model.call(a)); break;
                    default: break;
                }
        }
    }

    private void askOfTree() {
        int a = self();
        int b = fork();
        int c = some(4);
        int what = some(9);
        due("self(" + a + ", " + what + ")", selfOrHidden(a, what), model.self(a, what));
        due("way(" + a + ", " + c + ")", x.way(a, c), model.way(a, c));
        due("fork(" + b + ", " + what + ")", x.fork(b, what), model.fork(b, what));
        due("branch(" + b + ", " + c + ", " + what + ")", x.branch(b, c, what), model.branch(b, c, what));
        int d = self();
        what = some(2);
        due("part(" + a + ", " + d + ", " + what + ")", x.part(a, d, what), model.part(a, d, what));
    }

    private void askOfOdds() {
        int a = self();
        int b = self();
        int c = fork();
        int d = draw(4) == 0 ? -1 : some(4);
        int what = some(4);
        due("odds(" + a + ")", x.odds(a), model.odds(a));
        due("mean(" + what + ")", x.mean(what), model.mean(what));
        due("worth(" + a + ")", x.worth(a), model.worth(a));
        due("value(" + c + ", " + d + ")", x.value(c, d), model.value(c, d));
        due("advice(" + c + ")", x.advice(c), model.advice(c));
        due("regret(" + a + ", " + c + ")", x.regret(a, c), model.regret(a, c));
        what = some(2);
        due("sore(" + a + ", " + what + ")", x.sore(a, what), model.sore(a, what));
        due("apology(" + a + ", " + b + ")", x.apology(a, b), model.apology(a, b));
    }

    private void askAtPot() {
        int a = self();
        int b = pot();
        due("share(" + a + ", " + b + ")", x.share(a, b), model.share(a, b));
        due("demand(" + a + ")", x.demand(a), model.demand(a));
        due("terms(" + b + ")", x.terms(b), model.terms(b));
        due("away(" + b + ")", x.away(b), model.away(b));
    }

    private void askForVotes() {
        int a = some(x.count(4));
        int b = some(x.count(4));
        int what = some(2);
        due("elected(" + what + ")", x.elected(what), model.elected(what));
        due("duel(" + a + ", " + b + ")", x.duel(a, b), model.duel(a, b));
        due("beats()", x.beats(), model.beats());
        due("ring()", x.ring(), model.ring());
    }

    private void askForFacts() {
        int a = self();
        int set = some(1 << x.count(2));
        int b = some(10);
        int c = some(10);
        due("all(" + set + ")", x.all(set), model.all(set));
        due("telling(" + a + ")", x.telling(a), model.telling(a));
        due("twins(" + a + ")", x.twins(a), model.twins(a));
        due("sentence()", x.sentence(), model.sentence());
        due("leads(" + b + ", " + c + ")", x.leads(b, c), model.leads(b, c));
    }

    private void askByClues() {
        int kind = some(6);
        int u = kind == 3 || kind == 4 ? some(100) : draw(10) == 0 ? some(100) : some(12);
        int v = draw(10) == 0 ? some(100) : fork();
        if (draw(3) == 0) {
            due("clue(" + kind + ", " + u + ", " + v + ")", x.clue(kind, u, v), model.clue(kind, u, v));
        }
        int what = some(2);
        due("can(" + what + ")", x.can(what), model.can(what));
        int a = code();
        int b = code();
        due("cross(" + a + ", " + b + ")", x.cross(a, b), model.cross(a, b));
        a = some(3);
        b = some(3);
        due("meetings(" + a + ", " + b + ", " + what + ")", x.meetings(a, b, what), model.meetings(a, b, what));
    }

    private void askOfBirths() {
        long seed = seed();
        int a = self();
        int n = some(100);
        due("town(" + n + ", " + seed + ", " + a + ")", x.town(n, seed, a), model.town(n, seed, a));
        due("birthday(" + seed + ")", x.birthday(seed), model.birthday(seed));
        int b = some(x.count(12));
        due("born(" + b + ")", x.born(b), model.born(b));
        if (draw(9) == 0) {
            due("take()", x.take(), model.take());
        }
    }

    private void ask() {
        switch (draw(8)) {
            case 0: askOfTree(); break;
            case 1: askOfOdds(); break;
            case 2: askAtPot(); break;
            case 3: askForVotes(); break;
            case 4: askForFacts(); break;
            case 5: askByClues(); break;
            case 6: askOfBirths(); break;
            default:
                int what = some(14);
                due("count(" + what + ")", x.count(what), model.count(what));
        }
    }

    private void run() {
        for (int i = 0; i < CALLS / 5 && DUE.isAllRight(); i++) {
            if (i > 0 && (i < 6 || draw(20) == 0)) {
                tell();
            }
            act();
            act();
            ask();
        }
    }

    public static void main(String[] args) {
        for (int run = 0; run < RUNS && DUE.isAllRight(); run++) {
            new ModelTests(run).run();
        }
        DUE.close("ModelTests");
    }
}
