import java.util.NoSuchElementException;

/** Among one's possible selves: lives told as trees, tastes told as texts, and what follows from them. */
public final class OtherSelves {
    public static final int NONE = -1;
    public static final int HIDDEN = -2000000000;

    private static final int MOST_LIVES = 3;
    private static final int MOST_TASTES = 6;
    private static final int MOST_BYTES = 240;
    private static final int MOST_SELVES = 12;
    private static final int MOST_DEEP = 6;
    private static final int MOST_BRANCHES = 4;
    // Twelve leaves close eleven forks at most; a text that fails may have six more open.
    private static final int MOST_FORKS = 20;
    private static final int MOST_ACTS = 40;
    private static final int MOST_CLUES = 12;
    private static final int MOST_BIRTHDAYS = 60;
    private static final int MOST_POT = 9999;
    private static final int ALL_FACTS = 1023;
    private static final int FORK_CODE = 100;

    private static final int POLICY = 0;
    private static final int RULE = 1;
    private static final int LIKING = 2;
    private static final int LAW = 3;
    private static final int FIRST_FORK = 4;

    private static final int GOODS = 0;
    private static final int JOY = 1;
    private static final int OWES = 2;
    private static final int YEARS = 3;
    private static final int DEAD = 4;
    private static final int TEMPER = 5;
    private static final int FACTS = 6;

    private final Tape tape;
    // One row more than may be told: a text that is only looked at is read into the next one.
    private final Life[] lives;
    private final Taste[] tastes;
    private final LifeReader lifeReader;
    private final TasteReader tasteReader;
    private final Table table;
    private final Values values;
    private final Council council;
    private final Facts facts;
    private final Births births;
    private int lifeCount;
    private int tasteCount;
    private int atTable;

    public OtherSelves() {
        tape = new Tape();
        lives = new Life[MOST_LIVES + 1];
        for (int i = 0; i < lives.length; i++) {
            lives[i] = new Life();
        }
        tastes = new Taste[MOST_TASTES + 1];
        for (int i = 0; i < tastes.length; i++) {
            tastes[i] = new Taste();
        }
        lifeReader = new LifeReader(tape);
        tasteReader = new TasteReader(tape);
        table = new Table(tastes);
        values = new Values(table);
        council = new Council(table, values);
        facts = new Facts(table);
        births = new Births(table);
        atTable = NONE;
    }

    public int feed(int a, int b, int c, int d, int e) {
        int more = Tape.bytesIn(a) + Tape.bytesIn(b) + Tape.bytesIn(c) + Tape.bytesIn(d) + Tape.bytesIn(e);
        if (tape.length + more > MOST_BYTES) {
            return NONE;
        }
        tape.append(a);
        tape.append(b);
        tape.append(c);
        tape.append(d);
        tape.append(e);
        return tape.length;
    }

    public boolean end(int n) {
        if (n < 0 || n > tape.length) {
            return false;
        }
        tape.length = n;
        return true;
    }

    public int fault(int sort) {
        if (sort == 0) {
            return lifeReader.read(lives[lifeCount]);
        }
        return sort == 1 ? tasteReader.read(tastes[tasteCount]) : -2;
    }

    public int text(int sort) {
        if (sort == 0 && lifeCount < MOST_LIVES && lifeReader.read(lives[lifeCount]) == NONE) {
            tape.length = 0;
            lifeCount++;
            bringToTable(lifeCount - 1);
            return lifeCount - 1;
        }
        if (sort == 1 && tasteCount < MOST_TASTES && tasteReader.read(tastes[tasteCount]) == NONE) {
            tape.length = 0;
            tasteCount++;
            return tasteCount - 1;
        }
        return NONE;
    }

    public int call(int life) {
        if (life < 0 || life >= lifeCount) {
            return NONE;
        }
        bringToTable(life);
        return table.life.leaves;
    }

    public int self(int self, int what) throws NoSuchElementException {
        if (!table.life.hasLeaf(self) || what < 0 || what > 8) {
            throw new NoSuchElementException("no such self");
        }
        if (what == 7) {
            return table.isThere(self) ? 1 : 0;
        }
        return what == 8 ? table.life.steps[self] : table.life.has[self][what];
    }

    public int way(int self, int i) {
        if (!table.life.hasLeaf(self) || i < 0 || i >= table.life.steps[self]) {
            return NONE;
        }
        return 10 * table.life.wayFork[self][i] + table.life.wayBranch[self][i];
    }

    public int fork(int fork, int what) {
        Life life = table.life;
        if (!life.hasFork(fork)) {
            return NONE;
        }
        switch (what) {
            case 0: return life.year[fork];
            case 1: return life.kind[fork];
            case 2: return life.branches[fork];
            case 3: return Integer.bitCount(table.openMask(fork));
            case 4: return life.ahead[fork];
            case 5: return life.behind[fork];
            default: return NONE;
        }
    }

    public int branch(int fork, int branch, int what) {
        Life life = table.life;
        if (!life.hasBranch(fork, branch) || what < 0 || what > 6) {
            return NONE;
        }
        if (what == 5) {
            return table.isOpen(fork, branch) ? 1 : 0;
        }
        return what == 6 ? life.target(fork, branch) : life.item(fork, branch, what);
    }

    public int part(int one, int other, int what) {
        if (!differentSelves(one, other) || what < 0 || what > 1) {
            return NONE;
        }
        int fork = table.life.parting(one, other);
        return what == 0 ? fork : table.life.year[fork];
    }

    public int open(int fork, int branch, boolean is) {
        if (!table.life.hasBranch(fork, branch) || table.isOpen(fork, branch) == is) {
            return NONE;
        }
        int mask = table.openMask(fork) ^ (1 << branch);
        return mask == 0 ? NONE : table.state.tell(FIRST_FORK + fork, mask);
    }

    public int set(int what, int v) {
        if (atTable == NONE || what < POLICY || what > LAW || !isSetting(what, v)) {
            return NONE;
        }
        return table.state.now[what] == v ? NONE : table.state.tell(what, v);
    }

    public int undo() {
        return table.state.untell();
    }

    public int odds(int self) {
        return table.life.hasLeaf(self) ? table.parts(self, false) : NONE;
    }

    public int mean(int what) {
        if (atTable == NONE || what < 0 || what > 3) {
            return HIDDEN;
        }
        return table.average(what);
    }

    public int worth(int self) {
        return table.life.hasLeaf(self) ? table.liked(self) : HIDDEN;
    }

    public int value(int fork, int branch) {
        boolean whole = branch == NONE;
        if (whole ? !table.life.hasFork(fork) : !table.life.hasBranch(fork, branch)) {
            return HIDDEN;
        }
        values.reckon();
        return whole ? values.ofFork[fork] : values.behind(fork, branch);
    }

    public int advice(int fork) {
        if (!table.life.hasFork(fork)) {
            return NONE;
        }
        values.reckon();
        return values.bestBranch(fork);
    }

    public int regret(int self, int fork) {
        if (!table.life.hasLeaf(self) || !table.life.hasFork(fork)) {
            return NONE;
        }
        int step = table.life.stepAt(self, fork);
        if (step == NONE) {
            return NONE;
        }
        values.reckon();
        return values.regretAt(self, step);
    }

    public int sore(int self, int what) {
        if (!table.life.hasLeaf(self) || what < 0 || what > 1) {
            return HIDDEN;
        }
        values.reckon();
        return what == 0 ? values.sorest(self) : values.regrets(self);
    }

    public int apology(int one, int other) {
        if (!differentSelves(one, other)) {
            return HIDDEN;
        }
        values.reckon();
        return values.lead(one, other);
    }

    public int share(int self, int pot) {
        if (!table.life.hasLeaf(self) || !table.isThere(self) || !isPot(pot)) {
            return NONE;
        }
        return council.shareOf(self, pot);
    }

    public int demand(int self) {
        if (!table.life.hasLeaf(self) || !table.isThere(self)) {
            return NONE;
        }
        return council.demandOf(self);
    }

    public int terms(int pot) {
        return atTable == NONE || !isPot(pot) ? HIDDEN : pot - council.demands();
    }

    public int away(int pot) {
        return atTable == NONE || !isPot(pot) ? NONE : council.fewestAway(pot);
    }

    public int elected(int what) {
        if (atTable == NONE || tasteCount == 0 || what < 0 || what > 1) {
            return NONE;
        }
        return council.winner(tasteCount, what);
    }

    public int duel(int one, int other) {
        if (atTable == NONE || !isTaste(one) || !isTaste(other)) {
            return HIDDEN;
        }
        council.hear(tasteCount);
        return council.ahead(one, other);
    }

    public int beats() {
        return atTable == NONE || tasteCount < 2 ? NONE : council.beatsAll(tasteCount);
    }

    public int ring() {
        return atTable == NONE ? NONE : council.leastRing(tasteCount);
    }

    public int all(int selves) {
        if (atTable == NONE || selves < 0 || selves >= 1 << table.life.leaves) {
            return NONE;
        }
        return facts.common(selves);
    }

    public int telling(int self) {
        if (!table.life.hasLeaf(self) || !table.isThere(self)) {
            return NONE;
        }
        return facts.fewestTelling(self);
    }

    public int twins(int self) {
        return table.life.hasLeaf(self) ? facts.sameAs(self) : NONE;
    }

    public int sentence() {
        return atTable == NONE ? NONE : facts.fewestForAll();
    }

    public int leads(int one, int other) {
        if (atTable == NONE || one < 0 || one > 9 || other < 0 || other > 9) {
            return NONE;
        }
        return facts.leadsTo(one, other) ? 1 : 0;
    }

    public int clue(int kind, int u, int v) {
        if (atTable == NONE || kind < 0 || kind > 5 || u < 0 || u > 99 || v < 0 || v > 99) {
            return NONE;
        }
        return facts.addClue(kind, u, v);
    }

    public int can(int what) {
        if (atTable == NONE || what < 0 || what > 1) {
            return NONE;
        }
        return what == 0 ? facts.possible() : facts.likeliest();
    }

    public int cross(int one, int other) {
        if (!isCode(one) || !isCode(other) || one / 100 == other / 100) {
            return NONE;
        }
        return Facts.crossing(lives[one / 100], one % 100, lives[other / 100], other % 100);
    }

    public int meetings(int one, int other, int what) {
        if (one < 0 || one >= lifeCount || other < 0 || other >= lifeCount || one == other || what < 0 || what > 1) {
            return NONE;
        }
        return what == 0 ? Facts.pairs(lives[one], lives[other]) : Facts.crossesMost(lives[one], lives[other]);
    }

    public int birthday(long seed) {
        return atTable == NONE ? NONE : births.putBy(seed);
    }

    public int born(int birthday) {
        return birthday < 0 || birthday >= births.kept ? NONE : births.selves[birthday];
    }

    public int take() {
        if (births.kept == 0) {
            return NONE;
        }
        births.kept--;
        return births.kept;
    }

    public int town(int n, long seed, int self) {
        if (!table.life.hasLeaf(self) || n < 1 || n > 99) {
            return NONE;
        }
        return births.howMany(n, seed, self);
    }

    public int image() {
        if (atTable == NONE) {
            return NONE;
        }
        table.state.keepImage();
        return Integer.bitCount(table.thereBits());
    }

    public int back() {
        if (!table.state.hasImage) {
            return NONE;
        }
        table.state.takeImage();
        return Integer.bitCount(table.thereBits());
    }

    public int count(int what) {
        switch (what) {
            case 0: return lifeCount;
            case 1: return atTable;
            case 2: return table.life.leaves;
            case 3: return table.life.forks;
            case 4: return tasteCount;
            case 5: return tape.length;
            case 6: return Integer.bitCount(table.thereBits());
            case 7: return table.state.now[POLICY];
            case 8: return table.state.now[RULE];
            case 9: return table.state.now[LIKING];
            case 10: return table.state.now[LAW];
            case 11: return facts.clues;
            case 12: return births.kept;
            case 13: return table.state.acts;
            default: return HIDDEN;
        }
    }

    private void bringToTable(int life) {
        atTable = life;
        table.life = lives[life];
        table.state.forget();
        for (int fork = 0; fork < table.life.forks; fork++) {
            table.state.now[FIRST_FORK + fork] = table.life.allMask(fork);
        }
        facts.clues = 0;
        births.kept = 0;
    }

    private boolean differentSelves(int one, int other) {
        return table.life.hasLeaf(one) && table.life.hasLeaf(other) && one != other;
    }

    private boolean isSetting(int what, int v) {
        if (what == POLICY || what == LAW) {
            return v >= 0 && v <= 3;
        }
        return v == NONE || isTaste(v);
    }

    private boolean isTaste(int taste) {
        return taste >= 0 && taste < tasteCount;
    }

    private boolean isPot(int pot) {
        return pot >= 0 && pot <= MOST_POT;
    }

    private boolean isCode(int code) {
        return code >= 0 && code / 100 < lifeCount && lives[code / 100].hasLeaf(code % 100);
    }

    /** The bytes that were fed, and where one reads among them; the first fault is the one that counts. */
    private static final class Tape {
        final int[] bytes = new int[MOST_BYTES];
        int length;
        int at;
        int wrong;

        static int bytesIn(int number) {
            int bytes = 0;
            for (int shift = 24; shift >= 0; shift -= 8) {
                bytes += (number >>> shift & 255) == 0 ? 0 : 1;
            }
            return bytes;
        }

        void append(int number) {
            for (int shift = 24; shift >= 0; shift -= 8) {
                int one = number >>> shift & 255;
                if (one != 0 && length < bytes.length) {
                    bytes[length] = one;
                    length++;
                }
            }
        }

        void begin() {
            at = 0;
            wrong = NONE;
        }

        /** The next sign behind blanks; NONE at the end. */
        int sign() {
            while (at < length && bytes[at] == ' ') {
                at++;
            }
            return at < length ? bytes[at] : NONE;
        }

        boolean takes(int wanted) {
            if (sign() != wanted) {
                return false;
            }
            at++;
            return true;
        }

        void want(int wanted) {
            if (sign() == wanted) {
                at++;
            } else {
                failAt(at);
            }
        }

        /** Behind a fault every reader sees the end, so that all its loops end. */
        void failAt(int place) {
            if (wrong == NONE) {
                wrong = place;
            }
            at = length;
        }

        boolean isDigit() {
            return at < length && bytes[at] >= '0' && bytes[at] <= '9';
        }

        int number(int digits, int least, int most) {
            sign();
            if (!isDigit()) {
                failAt(at);
                return least;
            }
            int number = 0;
            for (int i = 0; i < digits && isDigit(); i++) {
                number = 10 * number + bytes[at] - '0';
                at++;
            }
            if (isDigit()) {
                failAt(at);
            } else if (number < least || number > most) {
                failAt(at - 1);
            }
            return number;
        }

        int finish() {
            if (sign() != NONE) {
                failAt(at);
            }
            return wrong;
        }
    }

    /** ITEMS of one sort: letters, each once at most, with their bounds and what they are without. */
    private static final class Items {
        final String letters;
        final int[] least;
        final int[] most;
        final int[] usual;
        final int[] told;

        Items(String letters, int[] least, int[] most, int[] usual) {
            this.letters = letters;
            this.least = least;
            this.most = most;
            this.usual = usual;
            told = new int[usual.length];
        }

        void read(Tape tape) {
            System.arraycopy(usual, 0, told, 0, told.length);
            int seen = 0;
            for (int i = 0; i <= told.length; i++) {
                int sign = tape.sign();
                int item = sign < 0 ? NONE : letters.indexOf((char) sign);
                if (item < 0 || item >= told.length) {
                    return;
                }
                if ((seen >> item & 1) == 1) {
                    tape.failAt(tape.at);
                    return;
                }
                seen |= 1 << item;
                tape.at++;
                told[item] = tape.number(2, least[item], most[item]);
            }
        }
    }

    /** A LIFE: its LEAVES with what they have by their WAYS, its FORKS, their BRANCHES. */
    private static final class Life {
        int leaves;
        int forks;
        final int[][] has = new int[MOST_SELVES][7];
        final int[] steps = new int[MOST_SELVES];
        final int[][] wayFork = new int[MOST_SELVES][MOST_DEEP];
        final int[][] wayBranch = new int[MOST_SELVES][MOST_DEEP];
        final int[] year = new int[MOST_FORKS];
        final int[] kind = new int[MOST_FORKS];
        final int[] branches = new int[MOST_FORKS];
        final int[] ahead = new int[MOST_FORKS];
        final int[] behind = new int[MOST_FORKS];
        final int[][] items = new int[MOST_FORKS * MOST_BRANCHES][5];
        final int[] targets = new int[MOST_FORKS * MOST_BRANCHES];

        boolean hasLeaf(int leaf) {
            return leaf >= 0 && leaf < leaves;
        }

        boolean hasFork(int fork) {
            return fork >= 0 && fork < forks;
        }

        boolean hasBranch(int fork, int branch) {
            return hasFork(fork) && branch >= 0 && branch < branches[fork];
        }

        int item(int fork, int branch, int what) {
            return items[fork * MOST_BRANCHES + branch][what];
        }

        int weight(int fork, int branch) {
            return item(fork, branch, 0);
        }

        int target(int fork, int branch) {
            return targets[fork * MOST_BRANCHES + branch];
        }

        int allMask(int fork) {
            return (1 << branches[fork]) - 1;
        }

        int weights(int fork, int mask) {
            int weights = 0;
            for (int branch = 0; branch < branches[fork]; branch++) {
                weights += (mask >> branch & 1) == 1 ? weight(fork, branch) : 0;
            }
            return weights;
        }

        /** Which step of a leaf's WAY goes by a FORK; NONE: not on it. */
        int stepAt(int leaf, int fork) {
            for (int i = 0; i < steps[leaf]; i++) {
                if (wayFork[leaf][i] == fork) {
                    return i;
                }
            }
            return NONE;
        }

        /** The last FORK on both WAYS; two different leaves have the first FORK in common. */
        int parting(int one, int other) {
            int last = 0;
            for (int i = 0; i < steps[one] && i < steps[other]; i++) {
                if (wayFork[one][i] == wayFork[other][i]) {
                    last = wayFork[one][i];
                }
            }
            return last;
        }
    }

    /** Reads the TAPE as a LIFE. */
    private static final class LifeReader {
        private static final int[] LEAF_LEAST = {0, 0, 1, 0, 0};
        private static final int[] LEAF_MOST = {99, 99, 99, 1, 9};
        private static final int[] LEAF_USUAL = {10, 50, 40, 0, 5};
        private static final int[] FORK_LEAST = {1, 0};
        private static final int[] FORK_MOST = {99, 1};
        private static final int[] FORK_USUAL = {20, 0};
        private static final int[] BRANCH_LEAST = {1, 0, 0, 0, 0};
        private static final int[] BRANCH_MOST = {9, 99, 99, 99, 9};
        private static final int[] BRANCH_USUAL = {1, 0, 0, 0, -1};

        final Tape tape;
        final Items leafItems = new Items("gjydt", LEAF_LEAST, LEAF_MOST, LEAF_USUAL);
        final Items forkItems = new Items("yk", FORK_LEAST, FORK_MOST, FORK_USUAL);
        final Items branchItems = new Items("wgjox", BRANCH_LEAST, BRANCH_MOST, BRANCH_USUAL);
        final int[] pathFork = new int[MOST_DEEP];
        final int[] pathBranch = new int[MOST_DEEP];

        LifeReader(Tape tape) {
            this.tape = tape;
        }

        /** The FAULT, or NONE: then the LIFE stands in the row. */
        int read(Life life) {
            life.leaves = 0;
            life.forks = 0;
            tape.begin();
            readNode(life, 0);
            return tape.finish();
        }

        private int readNode(Life life, int depth) {
            int sign = tape.sign();
            if (sign == 'l' && life.leaves < MOST_SELVES) {
                return readLeaf(life, depth);
            }
            if (sign == 'f' && depth < MOST_DEEP && life.forks < MOST_FORKS) {
                return readFork(life, depth);
            }
            tape.failAt(tape.at);
            return NONE;
        }

        private int readLeaf(Life life, int depth) {
            tape.at++;
            leafItems.read(tape);
            int leaf = life.leaves;
            life.leaves++;
            int[] row = life.has[leaf];
            row[GOODS] = leafItems.told[0];
            row[JOY] = leafItems.told[1];
            row[OWES] = 0;
            row[YEARS] = leafItems.told[2];
            row[DEAD] = leafItems.told[3];
            row[TEMPER] = leafItems.told[4];
            row[FACTS] = 0;
            life.steps[leaf] = depth;
            for (int i = 0; i < depth && i < MOST_DEEP; i++) {
                addStep(life, leaf, i);
            }
            return leaf;
        }

        private void addStep(Life life, int leaf, int i) {
            int fork = pathFork[i];
            int branch = pathBranch[i];
            int[] row = life.has[leaf];
            life.wayFork[leaf][i] = fork;
            life.wayBranch[leaf][i] = branch;
            life.behind[fork] |= 1 << leaf;
            row[GOODS] += life.item(fork, branch, 1);
            row[JOY] += life.item(fork, branch, 2);
            row[OWES] += life.item(fork, branch, 3);
            int fact = life.item(fork, branch, 4);
            row[FACTS] |= fact == NONE ? 0 : 1 << fact;
        }

        private int readFork(Life life, int depth) {
            tape.at++;
            forkItems.read(tape);
            int fork = life.forks;
            life.forks++;
            life.year[fork] = forkItems.told[0];
            life.kind[fork] = forkItems.told[1];
            life.ahead[fork] = depth == 0 ? NONE : pathFork[depth - 1];
            life.behind[fork] = 0;
            tape.want('(');
            for (int branch = 0; branch < MOST_BRANCHES; branch++) {
                life.branches[fork] = branch + 1;
                pathFork[depth] = fork;
                pathBranch[depth] = branch;
                readBranch(life, depth);
                if (branch > 0 && tape.takes(')')) {
                    break;
                }
                if (branch == MOST_BRANCHES - 1 || !tape.takes(';')) {
                    tape.failAt(tape.at);
                    break;
                }
            }
            return FORK_CODE + fork;
        }

        private void readBranch(Life life, int depth) {
            int place = pathFork[depth] * MOST_BRANCHES + pathBranch[depth];
            branchItems.read(tape);
            // A fault may leave a number out of bounds behind, with which nothing is to be reckoned.
            if (tape.wrong != NONE) {
                return;
            }
            System.arraycopy(branchItems.told, 0, life.items[place], 0, branchItems.told.length);
            tape.want(':');
            life.targets[place] = readNode(life, depth + 1);
        }
    }

    /** A TASTE as signs in the order in which they are reckoned: operands first. */
    private static final class Taste {
        static final String LETTERS = "gjoydtbw";
        static final int LETTER = 10000;
        static final int TEST = -'?';
        static final int GIVE = -';';
        private static final int MOST_SIGNS = 256;
        // Seven levels, on each of which | & = + * may wait at once.
        private static final int MOST_WAITING = 64;
        private static final int BOUND = 1000000;

        final int[] signs = new int[MOST_SIGNS];
        final int[] waiting = new int[MOST_WAITING];
        int length;

        void put(int sign) {
            if (length < MOST_SIGNS) {
                signs[length] = sign;
                length++;
            }
        }

        /** The SUM of the first CLAUSE whose CONDITION holds, 0 without. */
        int reckon(int[] letters) {
            int top = 0;
            boolean skips = false;
            for (int i = 0; i < length; i++) {
                int sign = signs[i];
                if (skips) {
                    skips = sign != GIVE;
                } else if (sign >= 0) {
                    if (top < MOST_WAITING) {
                        waiting[top] = sign < LETTER ? sign : letterAt(letters, sign - LETTER);
                        top++;
                    }
                } else if (top == 0) {
                    return 0;
                } else if (sign == GIVE) {
                    return waiting[top - 1];
                } else if (sign == TEST) {
                    top--;
                    skips = waiting[top] == 0;
                } else if (sign == -'!') {
                    waiting[top - 1] = 1 - waiting[top - 1];
                } else if (top > 1) {
                    top--;
                    waiting[top - 1] = joined(-sign, waiting[top - 1], waiting[top]);
                }
            }
            return 0;
        }

        private static int letterAt(int[] letters, int letter) {
            return letter < letters.length ? letters[letter] : 0;
        }

        private static int joined(int sign, long left, long right) {
            long number;
            switch (sign) {
                case '+': number = left + right; break;
                case '-': number = left - right; break;
                case '*': number = left * right; break;
                case '/': number = right == 0 ? 0 : left / right; break;
                case '=': number = left == right ? 1 : 0; break;
                case '<': number = left < right ? 1 : 0; break;
                case '>': number = left > right ? 1 : 0; break;
                case '&': number = left & right; break;
                default: number = left | right; break;
            }
            if (number > BOUND) {
                return BOUND;
            }
            return number < -BOUND ? -BOUND : (int) number;
        }
    }

    /** Reads the TAPE as a TASTE; depth tells how many of ( [ ! are open. */
    private static final class TasteReader {
        private static final int MOST_WITHIN = 6;

        final Tape tape;

        TasteReader(Tape tape) {
            this.tape = tape;
        }

        /** The FAULT, or NONE: then the TASTE stands in the row. */
        int read(Taste taste) {
            taste.length = 0;
            tape.begin();
            for (int i = 0; i < MOST_BYTES; i++) {
                readClause(taste);
                if (!tape.takes(';')) {
                    break;
                }
            }
            return tape.finish();
        }

        private void readClause(Taste taste) {
            tape.want('y');
            tape.want(':');
            int sign = tape.sign();
            boolean begun = sign != '!' && sign != '(';
            if (begun) {
                readSum(taste, 0);
            }
            if (!begun || compares(tape.sign())) {
                readCondition(taste, 0, begun);
                tape.want('?');
                taste.put(Taste.TEST);
                readSum(taste, 0);
            }
            taste.put(Taste.GIVE);
        }

        private static boolean compares(int sign) {
            return sign == '=' || sign == '<' || sign == '>';
        }

        /** begun: the first SUM of the CONDITION has been read. */
        private void readCondition(Taste taste, int depth, boolean begun) {
            readTruth(taste, depth, begun);
            for (int i = 0; i < MOST_BYTES && tape.takes('|'); i++) {
                readTruth(taste, depth, false);
                taste.put(-'|');
            }
        }

        private void readTruth(Taste taste, int depth, boolean begun) {
            readUnit(taste, depth, begun);
            for (int i = 0; i < MOST_BYTES && tape.takes('&'); i++) {
                readUnit(taste, depth, false);
                taste.put(-'&');
            }
        }

        private void readUnit(Taste taste, int depth, boolean begun) {
            int sign = tape.sign();
            if (!begun && sign == '!') {
                if (goesIn(depth)) {
                    readUnit(taste, depth + 1, false);
                    taste.put(-'!');
                }
            } else if (!begun && sign == '(') {
                if (goesIn(depth)) {
                    readCondition(taste, depth + 1, false);
                    tape.want(')');
                }
            } else {
                readComparison(taste, depth, begun);
            }
        }

        private void readComparison(Taste taste, int depth, boolean begun) {
            if (!begun) {
                readSum(taste, depth);
            }
            int sign = tape.sign();
            if (!compares(sign)) {
                tape.failAt(tape.at);
                return;
            }
            tape.at++;
            readSum(taste, depth);
            taste.put(-sign);
        }

        /** Goes behind one of ( [ !, unless six are open. */
        private boolean goesIn(int depth) {
            if (depth >= MOST_WITHIN) {
                tape.failAt(tape.at);
                return false;
            }
            tape.at++;
            return true;
        }

        private void readSum(Taste taste, int depth) {
            readTerm(taste, depth);
            for (int i = 0; i < MOST_BYTES; i++) {
                int sign = tape.sign();
                if (sign != '+' && sign != '-') {
                    return;
                }
                tape.at++;
                readTerm(taste, depth);
                taste.put(-sign);
            }
        }

        private void readTerm(Taste taste, int depth) {
            readAtom(taste, depth);
            for (int i = 0; i < MOST_BYTES; i++) {
                int sign = tape.sign();
                if (sign != '*' && sign != '/') {
                    return;
                }
                tape.at++;
                readAtom(taste, depth);
                taste.put(-sign);
            }
        }

        private void readAtom(Taste taste, int depth) {
            int sign = tape.sign();
            int letter = sign < 0 ? NONE : Taste.LETTERS.indexOf((char) sign);
            if (sign == '[') {
                if (goesIn(depth)) {
                    readSum(taste, depth + 1);
                    tape.want(']');
                }
            } else if (letter >= 0) {
                tape.at++;
                taste.put(Taste.LETTER + letter);
            } else {
                taste.put(tape.number(4, 0, 9999));
            }
        }
    }

    /** What ACTS change: POLICY, RULE, LIKING, LAW and, behind them, what is open at each FORK, as bits. */
    private static final class State {
        final int[] now = new int[FIRST_FORK + MOST_FORKS];
        final int[] kept = new int[FIRST_FORK + MOST_FORKS];
        final int[] actPlace = new int[MOST_ACTS];
        final int[] actOld = new int[MOST_ACTS];
        boolean hasImage;
        int acts;

        State() {
            now[RULE] = NONE;
            now[LIKING] = NONE;
        }

        int tell(int place, int v) {
            if (acts == MOST_ACTS) {
                System.arraycopy(actPlace, 1, actPlace, 0, MOST_ACTS - 1);
                System.arraycopy(actOld, 1, actOld, 0, MOST_ACTS - 1);
                acts--;
            }
            actPlace[acts] = place;
            actOld[acts] = now[place];
            acts++;
            now[place] = v;
            return acts;
        }

        int untell() {
            if (acts == 0) {
                return NONE;
            }
            acts--;
            now[actPlace[acts]] = actOld[acts];
            return acts;
        }

        void forget() {
            acts = 0;
            hasImage = false;
        }

        void keepImage() {
            System.arraycopy(now, 0, kept, 0, now.length);
            hasImage = true;
        }

        void takeImage() {
            System.arraycopy(kept, 0, now, 0, now.length);
            acts = 0;
        }
    }

    /** The LIFE at the TABLE, what is open of it, and how one chooses. */
    private static final class Table {
        private static final int ALL_PARTS = 1000000000;

        final Taste[] tastes;
        final State state = new State();
        final int[] letters = new int[8];
        Life life = new Life();

        Table(Taste[] tastes) {
            this.tastes = tastes;
        }

        int openMask(int fork) {
            return state.now[FIRST_FORK + fork];
        }

        boolean isOpen(int fork, int branch) {
            return (openMask(fork) >> branch & 1) == 1;
        }

        boolean isThere(int leaf) {
            for (int i = 0; i < life.steps[leaf]; i++) {
                if (!isOpen(life.wayFork[leaf][i], life.wayBranch[leaf][i])) {
                    return false;
                }
            }
            return true;
        }

        int thereBits() {
            int bits = 0;
            for (int leaf = 0; leaf < life.leaves; leaf++) {
                bits |= isThere(leaf) ? 1 << leaf : 0;
            }
            return bits;
        }

        boolean hasLaw(int law) {
            return (state.now[LAW] & law) != 0;
        }

        boolean isDead(int leaf) {
            return life.has[leaf][DEAD] == 1;
        }

        int worthBy(int taste, int leaf) {
            System.arraycopy(life.has[leaf], GOODS, letters, 0, 6);
            letters[6] = 0;
            letters[7] = 0;
            return tastes[taste].reckon(letters);
        }

        /** WORTH of a SELF by the LIKING. */
        int liked(int leaf) {
            int liking = state.now[LIKING];
            int[] row = life.has[leaf];
            return liking == NONE ? row[JOY] + row[GOODS] - row[OWES] : worthBy(liking, leaf);
        }

        /** What is chosen by POLICY 0, 1, 2 among the BRANCHES of the mask. */
        int chosen(int fork, int mask) {
            int best = NONE;
            int most = 0;
            for (int branch = 0; branch < life.branches[fork]; branch++) {
                if ((mask >> branch & 1) == 1) {
                    int rank = rankOf(fork, branch, Integer.bitCount(mask));
                    if (best == NONE || rank > most) {
                        best = branch;
                        most = rank;
                    }
                }
            }
            return best;
        }

        /** By what a BRANCH is chosen, of several the lowest; open: how many are. */
        private int rankOf(int fork, int branch, int open) {
            if (state.now[POLICY] == 2) {
                return branch;
            }
            if (state.now[POLICY] != 0 || state.now[RULE] == NONE) {
                return 0;
            }
            letters[0] = life.item(fork, branch, 1);
            letters[1] = life.item(fork, branch, 2);
            letters[2] = life.item(fork, branch, 3);
            letters[3] = life.year[fork];
            letters[4] = 0;
            letters[5] = open;
            letters[6] = branch;
            letters[7] = life.weight(fork, branch);
            return tastes[state.now[RULE]].reckon(letters);
        }

        /** ODDS of a SELF, or those as if all were open. */
        int parts(int leaf, boolean asAllOpen) {
            int parts = ALL_PARTS;
            for (int i = 0; i < life.steps[leaf]; i++) {
                int fork = life.wayFork[leaf][i];
                int mask = asAllOpen ? life.allMask(fork) : openMask(fork);
                parts = partsBehind(parts, fork, life.wayBranch[leaf][i], mask);
            }
            return parts;
        }

        private int partsBehind(int parts, int fork, int branch, int mask) {
            if ((mask >> branch & 1) == 0) {
                return 0;
            }
            if (life.kind[fork] == 1) {
                int weights = life.weights(fork, mask);
                return weights == 0 ? 0 : (int) ((long) parts * life.weight(fork, branch) / weights);
            }
            if (state.now[POLICY] == 3) {
                int open = Integer.bitCount(mask);
                return open == 0 ? 0 : parts / open;
            }
            return chosen(fork, mask) == branch ? parts : 0;
        }

        int average(int what) {
            long sum = 0;
            for (int leaf = 0; leaf < life.leaves; leaf++) {
                long number = what == 3 ? liked(leaf) : life.has[leaf][what];
                sum += number * parts(leaf, false);
            }
            return (int) (sum / ALL_PARTS);
        }
    }

    /** VALUES folded back, and the regrets that follow; reckon() goes ahead of all else. */
    private static final class Values {
        final Table table;
        final int[] ofLeaf = new int[MOST_SELVES];
        final int[] ofFork = new int[MOST_FORKS];

        Values(Table table) {
            this.table = table;
        }

        void reckon() {
            Life life = table.life;
            for (int leaf = 0; leaf < life.leaves; leaf++) {
                ofLeaf[leaf] = 100 * table.liked(leaf);
            }
            // A FORK stands ahead of those behind it, so from the last one on each finds its own ready.
            for (int fork = life.forks - 1; fork >= 0; fork--) {
                ofFork[fork] = life.kind[fork] == 1 ? byChance(fork) : behind(fork, bestBranch(fork));
            }
        }

        int behind(int fork, int branch) {
            if (!table.life.hasBranch(fork, branch)) {
                return 0;
            }
            int target = table.life.target(fork, branch);
            return target >= FORK_CODE ? ofFork[target - FORK_CODE] : ofLeaf[target];
        }

        int bestBranch(int fork) {
            int best = NONE;
            for (int branch = 0; branch < table.life.branches[fork]; branch++) {
                if (table.isOpen(fork, branch) && (best == NONE || behind(fork, branch) > behind(fork, best))) {
                    best = branch;
                }
            }
            return best;
        }

        private int byChance(int fork) {
            long sum = 0;
            for (int branch = 0; branch < table.life.branches[fork]; branch++) {
                if (table.isOpen(fork, branch)) {
                    sum += (long) behind(fork, branch) * table.life.weight(fork, branch);
                }
            }
            int weights = table.life.weights(fork, table.openMask(fork));
            return weights == 0 ? 0 : (int) (sum / weights);
        }

        int regretAt(int leaf, int step) {
            int fork = table.life.wayFork[leaf][step];
            if (table.life.kind[fork] == 1) {
                return 0;
            }
            return Math.max(0, ofFork[fork] - behind(fork, table.life.wayBranch[leaf][step]));
        }

        int regrets(int leaf) {
            int sum = 0;
            for (int i = 0; i < table.life.steps[leaf]; i++) {
                sum += regretAt(leaf, i);
            }
            return sum;
        }

        int sorest(int leaf) {
            int best = NONE;
            for (int i = 0; i < table.life.steps[leaf]; i++) {
                if (best == NONE || regretAt(leaf, i) > regretAt(leaf, best)) {
                    best = i;
                }
            }
            return best == NONE ? NONE : table.life.wayFork[leaf][best];
        }

        /** How much more is behind the one's BRANCH where the two PART. */
        int lead(int one, int other) {
            Life life = table.life;
            int fork = life.parting(one, other);
            int step = life.stepAt(one, fork);
            if (step == NONE) {
                return 0;
            }
            return behind(fork, life.wayBranch[one][step]) - behind(fork, life.wayBranch[other][step]);
        }
    }

    /** Those THERE round one pot, and their votes. */
    private static final class Council {
        private static final int DEAD_VOTE = 1;
        private static final int DEAD_SHARE = 2;

        final Table table;
        final Values values;
        final int[] weights = new int[MOST_SELVES];
        final int[] asked = new int[MOST_SELVES];
        final int[] votes = new int[MOST_TASTES];
        final int[][] worths = new int[MOST_TASTES][MOST_SELVES];
        int voters;

        Council(Table table, Values values) {
            this.table = table;
            this.values = values;
        }

        private boolean shares(int leaf) {
            return table.isThere(leaf) && (!table.isDead(leaf) || table.hasLaw(DEAD_SHARE));
        }

        private long weigh() {
            values.reckon();
            long sum = 0;
            for (int leaf = 0; leaf < table.life.leaves; leaf++) {
                weights[leaf] = shares(leaf) ? 1 + values.regrets(leaf) / 100 : 0;
                sum += weights[leaf];
            }
            return sum;
        }

        int shareOf(int self, int pot) {
            long sum = weigh();
            if (sum == 0) {
                return NONE;
            }
            long left = pot;
            int lower = 0;
            for (int leaf = 0; leaf < table.life.leaves; leaf++) {
                left -= (long) pot * weights[leaf] / sum;
                lower += leaf < self && weights[leaf] > 0 ? 1 : 0;
            }
            int one = weights[self] > 0 && lower < left ? 1 : 0;
            return (int) ((long) pot * weights[self] / sum) + one;
        }

        int demandOf(int leaf) {
            int[] row = table.life.has[leaf];
            return shares(leaf) ? row[GOODS] * (10 - row[TEMPER]) / 10 : 0;
        }

        int demands() {
            int sum = 0;
            for (int leaf = 0; leaf < table.life.leaves; leaf++) {
                asked[leaf] = demandOf(leaf);
                sum += asked[leaf];
            }
            return sum;
        }

        int fewestAway(int pot) {
            int missing = demands() - pot;
            int best = (1 << table.life.leaves) - 1;
            for (int set = 0; set < 1 << table.life.leaves; set++) {
                if (Integer.bitCount(set) < Integer.bitCount(best) && askedBy(set) >= missing) {
                    best = set;
                }
            }
            return best;
        }

        private int askedBy(int set) {
            int sum = 0;
            for (int leaf = 0; leaf < table.life.leaves; leaf++) {
                sum += (set >> leaf & 1) == 1 ? asked[leaf] : 0;
            }
            return sum;
        }

        /** Who votes, and what each motion is worth to whom. */
        void hear(int motions) {
            voters = 0;
            for (int leaf = 0; leaf < table.life.leaves; leaf++) {
                if (table.isThere(leaf) && (!table.isDead(leaf) || table.hasLaw(DEAD_VOTE))) {
                    voters |= 1 << leaf;
                    for (int motion = 0; motion < motions && motion < MOST_TASTES; motion++) {
                        worths[motion][leaf] = table.worthBy(motion, leaf);
                    }
                }
            }
        }

        private boolean isVoter(int leaf) {
            return (voters >> leaf & 1) == 1;
        }

        private int votedFor(int leaf, int motions) {
            int best = 0;
            for (int motion = 1; motion < motions; motion++) {
                if (worths[motion][leaf] > worths[best][leaf]) {
                    best = motion;
                }
            }
            return best;
        }

        /** The motion with the most VOTES (what 0), how many it has (1). */
        int winner(int motions, int what) {
            hear(motions);
            if (voters == 0) {
                return NONE;
            }
            for (int motion = 0; motion < motions; motion++) {
                votes[motion] = 0;
            }
            for (int leaf = 0; leaf < table.life.leaves; leaf++) {
                if (isVoter(leaf)) {
                    votes[votedFor(leaf, motions)]++;
                }
            }
            int best = 0;
            for (int motion = 1; motion < motions; motion++) {
                if (votes[motion] > votes[best]) {
                    best = motion;
                }
            }
            return what == 0 ? best : votes[best];
        }

        /** How many more are for the one than for the other; hear() goes ahead. */
        int ahead(int one, int other) {
            int more = 0;
            for (int leaf = 0; leaf < table.life.leaves; leaf++) {
                if (isVoter(leaf)) {
                    more += Integer.compare(worths[one][leaf], worths[other][leaf]);
                }
            }
            return more;
        }

        int beatsAll(int motions) {
            hear(motions);
            for (int one = 0; one < motions; one++) {
                boolean wins = true;
                for (int other = 0; other < motions && wins; other++) {
                    wins = other == one || ahead(one, other) > 0;
                }
                if (wins) {
                    return one;
                }
            }
            return NONE;
        }

        int leastRing(int motions) {
            hear(motions);
            for (int one = 0; one < motions; one++) {
                for (int next = 0; next < motions; next++) {
                    int last = ahead(one, next) > 0 ? ringEnd(one, next, motions) : NONE;
                    if (last != NONE) {
                        return 100 * one + 10 * next + last;
                    }
                }
            }
            return NONE;
        }

        private int ringEnd(int one, int next, int motions) {
            for (int last = 0; last < motions; last++) {
                if (ahead(next, last) > 0 && ahead(last, one) > 0) {
                    return last;
                }
            }
            return NONE;
        }
    }

    /** What FACTS tell of SELVES, CLUES on who isn't there, and where LIVES CROSS. */
    private static final class Facts {
        final Table table;
        final int[] clueKind = new int[MOST_CLUES];
        final int[] clueU = new int[MOST_CLUES];
        final int[] clueV = new int[MOST_CLUES];
        int clues;

        Facts(Table table) {
            this.table = table;
        }

        private int factsOf(int leaf) {
            return table.life.has[leaf][FACTS];
        }

        int common(int selves) {
            int bits = ALL_FACTS;
            for (int leaf = 0; leaf < table.life.leaves; leaf++) {
                bits &= (selves >> leaf & 1) == 1 ? factsOf(leaf) : ALL_FACTS;
            }
            return bits;
        }

        int sameAs(int self) {
            int bits = 0;
            for (int leaf = 0; leaf < table.life.leaves; leaf++) {
                boolean twin = leaf != self && factsOf(leaf) == factsOf(self) && table.isThere(leaf);
                bits |= twin ? 1 << leaf : 0;
            }
            return bits;
        }

        int fewestTelling(int self) {
            if (sameAs(self) != 0) {
                return NONE;
            }
            int others = table.thereBits() & ~(1 << self);
            int best = ALL_FACTS;
            for (int set = 0; set < ALL_FACTS; set++) {
                if (Integer.bitCount(set) < Integer.bitCount(best) && tells(self, others, set)) {
                    best = set;
                }
            }
            return best;
        }

        private boolean tells(int self, int others, int set) {
            for (int leaf = 0; leaf < table.life.leaves; leaf++) {
                if ((others >> leaf & 1) == 1 && ((factsOf(leaf) ^ factsOf(self)) & set) == 0) {
                    return false;
                }
            }
            return true;
        }

        int fewestForAll() {
            int there = table.thereBits();
            if (!reachesAll(there, ALL_FACTS)) {
                return NONE;
            }
            int best = ALL_FACTS;
            for (int set = 0; set < ALL_FACTS; set++) {
                if (Integer.bitCount(set) < Integer.bitCount(best) && reachesAll(there, set)) {
                    best = set;
                }
            }
            return best;
        }

        private boolean reachesAll(int there, int set) {
            for (int leaf = 0; leaf < table.life.leaves; leaf++) {
                if ((there >> leaf & 1) == 1 && (factsOf(leaf) & set) == 0) {
                    return false;
                }
            }
            return true;
        }

        boolean leadsTo(int one, int other) {
            for (int leaf = 0; leaf < table.life.leaves; leaf++) {
                boolean hasOne = (factsOf(leaf) >> one & 1) == 1;
                boolean hasOther = (factsOf(leaf) >> other & 1) == 1;
                if (hasOne && !hasOther && table.isThere(leaf)) {
                    return false;
                }
            }
            return true;
        }

        int addClue(int kind, int u, int v) {
            if (clues >= MOST_CLUES) {
                return NONE;
            }
            clueKind[clues] = kind;
            clueU[clues] = u;
            clueV[clues] = v;
            clues++;
            return clues;
        }

        private boolean holds(int clue, int leaf) {
            Life life = table.life;
            int u = clueU[clue];
            switch (clueKind[clue]) {
                case 0: return hasFact(leaf, u);
                case 1: return !hasFact(leaf, u);
                case 2: return life.stepAt(leaf, u) != NONE;
                case 3: return life.has[leaf][GOODS] >= u;
                case 4: return life.has[leaf][YEARS] >= u;
                default: return u != leaf && life.hasLeaf(u) && life.parting(leaf, u) == clueV[clue];
            }
        }

        private boolean hasFact(int leaf, int fact) {
            return fact <= 9 && (factsOf(leaf) >> fact & 1) == 1;
        }

        private boolean canBe(int leaf) {
            for (int clue = 0; clue < clues; clue++) {
                if (!holds(clue, leaf)) {
                    return false;
                }
            }
            return true;
        }

        int possible() {
            int bits = 0;
            for (int leaf = 0; leaf < table.life.leaves; leaf++) {
                bits |= canBe(leaf) ? 1 << leaf : 0;
            }
            return bits;
        }

        int likeliest() {
            int best = NONE;
            int most = 0;
            for (int leaf = 0; leaf < table.life.leaves; leaf++) {
                int parts = canBe(leaf) ? table.parts(leaf, true) : NONE;
                if (parts != NONE && (best == NONE || parts > most)) {
                    best = leaf;
                    most = parts;
                }
            }
            return best;
        }

        /** FACTS that a leaf of each LIFE has by BRANCHES of FORKS with one YEAR. */
        static int crossing(Life one, int leaf, Life other, int leafOther) {
            int bits = 0;
            for (int i = 0; i < one.steps[leaf]; i++) {
                int fork = one.wayFork[leaf][i];
                int fact = one.item(fork, one.wayBranch[leaf][i], 4);
                boolean both = fact != NONE && hasInYear(other, leafOther, fact, one.year[fork]);
                bits |= both ? 1 << fact : 0;
            }
            return bits;
        }

        private static boolean hasInYear(Life life, int leaf, int fact, int year) {
            for (int i = 0; i < life.steps[leaf]; i++) {
                int fork = life.wayFork[leaf][i];
                if (life.year[fork] == year && life.item(fork, life.wayBranch[leaf][i], 4) == fact) {
                    return true;
                }
            }
            return false;
        }

        private static int crossed(Life one, int leaf, Life other) {
            int many = 0;
            for (int leafOther = 0; leafOther < other.leaves; leafOther++) {
                many += crossing(one, leaf, other, leafOther) == 0 ? 0 : 1;
            }
            return many;
        }

        static int pairs(Life one, Life other) {
            int many = 0;
            for (int leaf = 0; leaf < one.leaves; leaf++) {
                many += crossed(one, leaf, other);
            }
            return many;
        }

        static int crossesMost(Life one, Life other) {
            int best = NONE;
            int most = 0;
            for (int leaf = 0; leaf < one.leaves; leaf++) {
                int many = crossed(one, leaf, other);
                if (many > most) {
                    best = leaf;
                    most = many;
                }
            }
            return best;
        }
    }

    /** BIRTHDAYS by draws, and those put by. */
    private static final class Births {
        private static final long TIMES = 6364136223846793005L;
        private static final long MORE = 1442695040888963407L;

        final Table table;
        final int[] selves = new int[MOST_BIRTHDAYS];
        int kept;
        long x;

        Births(Table table) {
            this.table = table;
        }

        int putBy(long seed) {
            if (kept >= MOST_BIRTHDAYS) {
                return NONE;
            }
            x = seed;
            selves[kept] = drawnSelf();
            kept++;
            return selves[kept - 1];
        }

        int howMany(int births, long seed, int self) {
            x = seed;
            int many = 0;
            for (int i = 0; i < births; i++) {
                many += drawnSelf() == self ? 1 : 0;
            }
            return many;
        }

        private int draw(int m) {
            x = x * TIMES + MORE;
            return m <= 0 ? 0 : (int) ((x >>> 33) % m);
        }

        private int drawnSelf() {
            Life life = table.life;
            int target = life.forks == 0 ? 0 : FORK_CODE;
            for (int i = 0; i < MOST_DEEP && target >= FORK_CODE; i++) {
                int fork = target - FORK_CODE;
                int branch = drawnBranch(fork);
                target = life.hasBranch(fork, branch) ? life.target(fork, branch) : NONE;
            }
            return target;
        }

        private int drawnBranch(int fork) {
            Life life = table.life;
            int mask = table.openMask(fork);
            if (life.kind[fork] == 1) {
                return branchAt(fork, mask, draw(life.weights(fork, mask)), true);
            }
            if (table.state.now[POLICY] == 3) {
                return branchAt(fork, mask, draw(Integer.bitCount(mask)), false);
            }
            return table.chosen(fork, mask);
        }

        /** The open BRANCH into whose part the drawn number falls: its WEIGHT, or one each. */
        private int branchAt(int fork, int mask, int drawn, boolean weighted) {
            int left = drawn;
            for (int branch = 0; branch < table.life.branches[fork]; branch++) {
                if ((mask >> branch & 1) == 1) {
                    left -= weighted ? table.life.weight(fork, branch) : 1;
                    if (left < 0) {
                        return branch;
                    }
                }
            }
            return NONE;
        }
    }
}
