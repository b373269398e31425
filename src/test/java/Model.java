import java.util.ArrayDeque;
import java.util.ArrayList;
import java.util.List;

/** The document once more, on trees, without regard to room or speed: what each call of the face is due to answer. */
final class Model {
    private static final int NONE = -1;
    private static final int HIDDEN = -2000000000;

    /** A LEAF with its WAY. */
    private static final class Self {
        int[] items;
        final List<Texts.Node> forks = new ArrayList<>();
        final List<Integer> steps = new ArrayList<>();
    }

    private static final class Life {
        Texts.Node root;
        final List<Self> selves = new ArrayList<>();
        final List<Texts.Node> forks = new ArrayList<>();

        Life(Texts.Node root) {
            this.root = root;
            collect(root, new ArrayList<>(), new ArrayList<>());
        }

        private void collect(Texts.Node node, List<Texts.Node> way, List<Integer> steps) {
            if (node.isLeaf) {
                Self self = new Self();
                self.items = node.items;
                self.forks.addAll(way);
                self.steps.addAll(steps);
                selves.add(self);
                return;
            }
            forks.add(node);
            for (int i = 0; i < node.branches.size(); i++) {
                way.add(node);
                steps.add(i);
                collect(node.branches.get(i).to, way, steps);
                way.remove(way.size() - 1);
                steps.remove(steps.size() - 1);
            }
        }
    }

    private interface Act {
        void undo();
    }

    private final List<Life> lives = new ArrayList<>();
    private final List<Texts.Part> tastes = new ArrayList<>();
    private int at = NONE;
    private Life life;
    private int[] rules = {0, NONE, NONE, 0};
    private final ArrayDeque<Act> acts = new ArrayDeque<>();
    private final List<int[]> clues = new ArrayList<>();
    private final List<Integer> born = new ArrayList<>();
    private int[] imageRules;
    private List<List<Boolean>> imageOpen;

    int tellLife(Texts.Node root) {
        if (lives.size() == 3) {
            return NONE;
        }
        lives.add(new Life(root));
        call(lives.size() - 1);
        return lives.size() - 1;
    }

    int tellTaste(Texts.Part taste) {
        if (tastes.size() == 6) {
            return NONE;
        }
        tastes.add(taste);
        return tastes.size() - 1;
    }

    int call(int index) {
        if (index < 0 || index >= lives.size()) {
            return NONE;
        }
        at = index;
        life = lives.get(index);
        for (Texts.Node fork : life.forks) {
            for (Texts.Branch branch : fork.branches) {
                branch.open = true;
            }
        }
        acts.clear();
        clues.clear();
        born.clear();
        imageRules = null;
        return life.selves.size();
    }

    private int selves() {
        return life == null ? 0 : life.selves.size();
    }

    private boolean isSelf(int self) {
        return self >= 0 && self < selves();
    }

    private boolean isFork(int fork) {
        return life != null && fork >= 0 && fork < life.forks.size();
    }

    private boolean isBranch(int fork, int branch) {
        return isFork(fork) && branch >= 0 && branch < life.forks.get(fork).branches.size();
    }

    private Texts.Branch step(Self self, int i) {
        return self.forks.get(i).branches.get(self.steps.get(i));
    }

    private Self the(int self) {
        return life.selves.get(self);
    }

    private boolean there(int self) {
        for (int i = 0; i < the(self).steps.size(); i++) {
            if (!step(the(self), i).open) {
                return false;
            }
        }
        return true;
    }

    private int sum(Self self, int item, int own) {
        int sum = own;
        for (int i = 0; i < self.steps.size(); i++) {
            sum += step(self, i).items[item];
        }
        return sum;
    }

    private int facts(Self self) {
        int bits = 0;
        for (int i = 0; i < self.steps.size(); i++) {
            int fact = step(self, i).items[4];
            bits |= fact < 0 ? 0 : 1 << fact;
        }
        return bits;
    }

    private int facts(int self) {
        return facts(the(self));
    }

    private int[] letters(int self) {
        Self one = the(self);
        int[] own = one.items;
        return new int[] {sum(one, 1, own[0]), sum(one, 2, own[1]), sum(one, 3, 0), own[2], own[3], own[4], 0, 0};
    }

    /** HIDDEN where the face throws. */
    int self(int self, int what) {
        if (!isSelf(self) || what < 0 || what > 8) {
            return HIDDEN;
        }
        switch (what) {
            case 6: return facts(self);
            case 7: return there(self) ? 1 : 0;
            case 8: return the(self).steps.size();
            default: return letters(self)[what];
        }
    }

    int way(int self, int i) {
        if (!isSelf(self) || i < 0 || i >= the(self).steps.size()) {
            return NONE;
        }
        return 10 * life.forks.indexOf(the(self).forks.get(i)) + the(self).steps.get(i);
    }

    private static List<Integer> open(Texts.Node fork, boolean asAll) {
        List<Integer> open = new ArrayList<>();
        for (int i = 0; i < fork.branches.size(); i++) {
            if (asAll || fork.branches.get(i).open) {
                open.add(i);
            }
        }
        return open;
    }

    int fork(int fork, int what) {
        if (!isFork(fork)) {
            return NONE;
        }
        Texts.Node node = life.forks.get(fork);
        switch (what) {
            case 0: return node.items[0];
            case 1: return node.items[1];
            case 2: return node.branches.size();
            case 3: return open(node, false).size();
            case 4:
                for (int i = 0; i < life.forks.size(); i++) {
                    for (Texts.Branch branch : life.forks.get(i).branches) {
                        if (branch.to == node) {
                            return i;
                        }
                    }
                }
                return NONE;
            case 5:
                int bits = 0;
                for (int i = 0; i < selves(); i++) {
                    bits |= the(i).forks.contains(node) ? 1 << i : 0;
                }
                return bits;
            default: return NONE;
        }
    }

    int branch(int fork, int branch, int what) {
        if (!isBranch(fork, branch) || what < 0 || what > 6) {
            return NONE;
        }
        Texts.Branch one = life.forks.get(fork).branches.get(branch);
        if (what < 5) {
            return one.items[what];
        }
        if (what == 5) {
            return one.open ? 1 : 0;
        }
        if (!one.to.isLeaf) {
            return 100 + life.forks.indexOf(one.to);
        }
        for (int i = 0; i < selves(); i++) {
            Self self = the(i);
            int last = self.steps.size() - 1;
            if (last >= 0 && step(self, last) == one) {
                return i;
            }
        }
        return HIDDEN;
    }

    int part(int one, int other, int what) {
        if (!isSelf(one) || !isSelf(other) || one == other || what < 0 || what > 1) {
            return NONE;
        }
        for (int i = the(one).forks.size() - 1; i >= 0; i--) {
            Texts.Node fork = the(one).forks.get(i);
            if (the(other).forks.contains(fork)) {
                return what == 0 ? life.forks.indexOf(fork) : fork.items[0];
            }
        }
        return HIDDEN;
    }

    private int told(Act act) {
        acts.addLast(act);
        if (acts.size() > 40) {
            acts.removeFirst();
        }
        return acts.size();
    }

    int open(int fork, int branch, boolean is) {
        if (!isBranch(fork, branch)) {
            return NONE;
        }
        Texts.Node node = life.forks.get(fork);
        Texts.Branch one = node.branches.get(branch);
        if (one.open == is || !is && open(node, false).size() == 1) {
            return NONE;
        }
        one.open = is;
        return told(() -> one.open = !is);
    }

    int set(int what, int v) {
        if (life == null || what < 0 || what > 3 || rules[what] == v) {
            return NONE;
        }
        boolean fits = what == 0 || what == 3 ? v >= 0 && v <= 3 : v >= NONE && v < tastes.size();
        if (!fits) {
            return NONE;
        }
        int old = rules[what];
        rules[what] = v;
        return told(() -> rules[what] = old);
    }

    int undo() {
        if (acts.isEmpty()) {
            return NONE;
        }
        acts.removeLast().undo();
        return acts.size();
    }

    private int chosen(Texts.Node fork, boolean asAll) {
        List<Integer> open = open(fork, asAll);
        if (rules[0] == 2) {
            return open.get(open.size() - 1);
        }
        int best = open.get(0);
        if (rules[0] == 0 && rules[1] != NONE) {
            int most = Integer.MIN_VALUE;
            for (int i : open) {
                int[] b = fork.branches.get(i).items;
                int[] letters = {b[1], b[2], b[3], fork.items[0], 0, open.size(), i, b[0]};
                int worth = tastes.get(rules[1]).worth(letters);
                if (worth > most) {
                    most = worth;
                    best = i;
                }
            }
        }
        return best;
    }

    private static long weights(Texts.Node fork, List<Integer> open) {
        long sum = 0;
        for (int i : open) {
            sum += fork.branches.get(i).items[0];
        }
        return sum;
    }

    private long odds(int self, boolean asAll) {
        long parts = 1000000000;
        for (int i = 0; i < the(self).steps.size(); i++) {
            Texts.Node fork = the(self).forks.get(i);
            int by = the(self).steps.get(i);
            List<Integer> open = open(fork, asAll);
            if (!open.contains(by)) {
                parts = 0;
            } else if (fork.items[1] == 1) {
                parts = parts * fork.branches.get(by).items[0] / weights(fork, open);
            } else if (rules[0] == 3) {
                parts = parts / open.size();
            } else if (chosen(fork, asAll) != by) {
                parts = 0;
            }
        }
        return parts;
    }

    int odds(int self) {
        return isSelf(self) ? (int) odds(self, false) : NONE;
    }

    int mean(int what) {
        if (life == null || what < 0 || what > 3) {
            return HIDDEN;
        }
        long sum = 0;
        for (int i = 0; i < selves(); i++) {
            sum += odds(i, false) * (what == 3 ? worth(i) : letters(i)[what]);
        }
        return (int) (sum / 1000000000);
    }

    int worth(int self) {
        if (!isSelf(self)) {
            return HIDDEN;
        }
        int[] letters = letters(self);
        return rules[2] == NONE ? letters[1] + letters[0] - letters[2] : tastes.get(rules[2]).worth(letters);
    }

    private long value(Texts.Node node) {
        if (node.isLeaf) {
            for (int i = 0; i < selves(); i++) {
                if (the(i).items == node.items) {
                    return 100L * worth(i);
                }
            }
        }
        List<Integer> open = open(node, false);
        long sum = 0;
        long most = Long.MIN_VALUE;
        for (int i : open) {
            long one = value(node.branches.get(i).to);
            most = Math.max(most, one);
            sum += one * node.branches.get(i).items[0];
        }
        return node.items[1] == 0 ? most : sum / weights(node, open);
    }

    int value(int fork, int branch) {
        if (!(branch == NONE ? isFork(fork) : isBranch(fork, branch))) {
            return HIDDEN;
        }
        Texts.Node node = life.forks.get(fork);
        return (int) value(branch == NONE ? node : node.branches.get(branch).to);
    }

    int advice(int fork) {
        if (!isFork(fork)) {
            return NONE;
        }
        int best = NONE;
        for (int i : open(life.forks.get(fork), false)) {
            if (best == NONE || value(fork, i) > value(fork, best)) {
                best = i;
            }
        }
        return best;
    }

    int regret(int self, int fork) {
        if (!isSelf(self) || !isFork(fork) || !the(self).forks.contains(life.forks.get(fork))) {
            return NONE;
        }
        Texts.Node node = life.forks.get(fork);
        if (node.items[1] == 1) {
            return 0;
        }
        int by = the(self).steps.get(the(self).forks.indexOf(node));
        return Math.max(0, value(fork, NONE) - value(fork, by));
    }

    int sore(int self, int what) {
        if (!isSelf(self) || what < 0 || what > 1) {
            return HIDDEN;
        }
        int best = NONE;
        int all = 0;
        for (int i = 0; i < life.forks.size(); i++) {
            int one = regret(self, i);
            if (one != NONE) {
                all += one;
                best = best == NONE || one > regret(self, best) ? i : best;
            }
        }
        return what == 0 ? best : all;
    }

    int apology(int one, int other) {
        int fork = part(one, other, 0);
        if (fork == NONE) {
            return HIDDEN;
        }
        int i = the(one).forks.indexOf(life.forks.get(fork));
        return value(fork, the(one).steps.get(i)) - value(fork, the(other).steps.get(i));
    }

    private boolean dead(int self) {
        return the(self).items[3] == 1;
    }

    private boolean atPot(int self) {
        return there(self) && (!dead(self) || rules[3] >= 2);
    }

    int share(int self, int pot) {
        if (!isSelf(self) || !there(self) || pot < 0 || pot > 9999) {
            return NONE;
        }
        long all = 0;
        long[] weight = new long[selves()];
        for (int i = 0; i < selves(); i++) {
            weight[i] = atPot(i) ? 1 + sore(i, 1) / 100 : 0;
            all += weight[i];
        }
        if (all == 0) {
            return NONE;
        }
        long[] share = new long[selves()];
        long left = pot;
        for (int i = 0; i < selves(); i++) {
            share[i] = pot * weight[i] / all;
            left -= share[i];
        }
        for (int i = 0; i < selves(); i++) {
            if (weight[i] > 0 && left > 0) {
                share[i]++;
                left--;
            }
        }
        return (int) share[self];
    }

    int demand(int self) {
        if (!isSelf(self) || !there(self)) {
            return NONE;
        }
        return atPot(self) ? letters(self)[0] * (10 - letters(self)[5]) / 10 : 0;
    }

    private int over(int pot, int gone) {
        int over = pot;
        for (int i = 0; i < selves(); i++) {
            over -= there(i) && (gone >> i & 1) == 0 ? demand(i) : 0;
        }
        return over;
    }

    int terms(int pot) {
        return life == null || pot < 0 || pot > 9999 ? HIDDEN : over(pot, 0);
    }

    int away(int pot) {
        if (life == null || pot < 0 || pot > 9999) {
            return NONE;
        }
        for (int many = 0; many <= selves(); many++) {
            for (int set = 0; set < 1 << selves(); set++) {
                if (Integer.bitCount(set) == many && over(pot, set) >= 0) {
                    return set;
                }
            }
        }
        return HIDDEN;
    }

    private boolean votes(int self) {
        return there(self) && (!dead(self) || rules[3] % 2 == 1);
    }

    int elected(int what) {
        if (life == null || tastes.isEmpty() || what < 0 || what > 1) {
            return NONE;
        }
        int[] votes = new int[tastes.size()];
        int voters = 0;
        for (int i = 0; i < selves(); i++) {
            if (votes(i)) {
                int best = 0;
                for (int m = 0; m < votes.length; m++) {
                    best = tastes.get(m).worth(letters(i)) > tastes.get(best).worth(letters(i)) ? m : best;
                }
                votes[best]++;
                voters++;
            }
        }
        int best = 0;
        for (int m = 0; m < votes.length; m++) {
            best = votes[m] > votes[best] ? m : best;
        }
        return voters == 0 ? NONE : what == 0 ? best : votes[best];
    }

    int duel(int one, int other) {
        int n = tastes.size();
        if (life == null || one < 0 || other < 0 || one >= n || other >= n) {
            return HIDDEN;
        }
        int more = 0;
        for (int i = 0; i < selves(); i++) {
            if (votes(i)) {
                int a = tastes.get(one).worth(letters(i));
                int b = tastes.get(other).worth(letters(i));
                more += a > b ? 1 : a < b ? -1 : 0;
            }
        }
        return more;
    }

    int beats() {
        if (life == null || tastes.size() < 2) {
            return NONE;
        }
        for (int one = 0; one < tastes.size(); one++) {
            int won = 0;
            for (int other = 0; other < tastes.size(); other++) {
                won += duel(one, other) > 0 ? 1 : 0;
            }
            if (won == tastes.size() - 1) {
                return one;
            }
        }
        return NONE;
    }

    int ring() {
        for (int code = 0; life != null && code < 1000; code++) {
            int a = code / 100;
            int b = code / 10 % 10;
            int c = code % 10;
            if (duel(a, b) > 0 && duel(b, c) > 0 && duel(c, a) > 0) {
                return code;
            }
        }
        return NONE;
    }

    int all(int set) {
        if (life == null || set < 0 || set >= 1 << selves()) {
            return NONE;
        }
        int bits = 1023;
        for (int i = 0; i < selves(); i++) {
            bits &= (set >> i & 1) == 1 ? facts(i) : 1023;
        }
        return bits;
    }

    int telling(int self) {
        if (!isSelf(self) || !there(self)) {
            return NONE;
        }
        int best = NONE;
        for (int set = 0; set < 1024; set++) {
            boolean tells = true;
            for (int i = 0; i < selves(); i++) {
                tells &= i == self || !there(i) || (facts(i) & set) != (facts(self) & set);
            }
            if (tells && (best == NONE || Integer.bitCount(set) < Integer.bitCount(best))) {
                best = set;
            }
        }
        return best;
    }

    int twins(int self) {
        if (!isSelf(self)) {
            return NONE;
        }
        int bits = 0;
        for (int i = 0; i < selves(); i++) {
            bits |= i != self && there(i) && facts(i) == facts(self) ? 1 << i : 0;
        }
        return bits;
    }

    int sentence() {
        int best = NONE;
        for (int set = 0; life != null && set < 1024; set++) {
            boolean says = true;
            for (int i = 0; i < selves(); i++) {
                says &= !there(i) || (facts(i) & set) != 0;
            }
            if (says && (best == NONE || Integer.bitCount(set) < Integer.bitCount(best))) {
                best = set;
            }
        }
        return best;
    }

    int leads(int one, int other) {
        if (life == null || one < 0 || one > 9 || other < 0 || other > 9) {
            return NONE;
        }
        for (int i = 0; i < selves(); i++) {
            if (there(i) && (facts(i) >> one & 1) == 1 && (facts(i) >> other & 1) == 0) {
                return 0;
            }
        }
        return 1;
    }

    int clue(int kind, int u, int v) {
        if (life == null || kind < 0 || kind > 5 || u < 0 || u > 99 || v < 0 || v > 99 || clues.size() == 12) {
            return NONE;
        }
        clues.add(new int[] {kind, u, v});
        return clues.size();
    }

    private boolean fits(int self, int[] clue) {
        int u = clue[1];
        boolean has = u < 10 && (facts(self) & 1 << u) != 0;
        switch (clue[0]) {
            case 0: return has;
            case 1: return !has;
            case 2: return isFork(u) && the(self).forks.contains(life.forks.get(u));
            case 3: return letters(self)[0] >= u;
            case 4: return letters(self)[3] >= u;
            default: return part(self, u, 0) == clue[2];
        }
    }

    int can(int what) {
        if (life == null || what < 0 || what > 1) {
            return NONE;
        }
        int bits = 0;
        int best = NONE;
        for (int i = 0; i < selves(); i++) {
            boolean can = true;
            for (int[] clue : clues) {
                can &= fits(i, clue);
            }
            bits |= can ? 1 << i : 0;
            best = can && (best == NONE || odds(i, true) > odds(best, true)) ? i : best;
        }
        return what == 0 ? bits : best;
    }

    private boolean isCode(int code) {
        return code >= 0 && code / 100 < lives.size() && code % 100 < lives.get(code / 100).selves.size();
    }

    int cross(int one, int other) {
        if (!isCode(one) || !isCode(other) || one / 100 == other / 100) {
            return NONE;
        }
        Self a = lives.get(one / 100).selves.get(one % 100);
        Self b = lives.get(other / 100).selves.get(other % 100);
        int bits = 0;
        for (int i = 0; i < a.steps.size(); i++) {
            for (int j = 0; j < b.steps.size(); j++) {
                int fact = step(a, i).items[4];
                boolean both = fact >= 0 && fact == step(b, j).items[4];
                bits |= both && a.forks.get(i).items[0] == b.forks.get(j).items[0] ? 1 << fact : 0;
            }
        }
        return bits;
    }

    int meetings(int one, int other, int what) {
        int n = lives.size();
        if (one < 0 || other < 0 || one >= n || other >= n || one == other || what < 0 || what > 1) {
            return NONE;
        }
        int pairs = 0;
        int best = NONE;
        int most = 0;
        for (int i = 0; i < lives.get(one).selves.size(); i++) {
            int many = 0;
            for (int j = 0; j < lives.get(other).selves.size(); j++) {
                many += cross(100 * one + i, 100 * other + j) != 0 ? 1 : 0;
            }
            pairs += many;
            if (many > most) {
                most = many;
                best = i;
            }
        }
        return what == 0 ? pairs : best;
    }

    private long x;

    private int draw(long m) {
        x = x * 6364136223846793005L + 1442695040888963407L;
        return (int) ((x >>> 33) % m);
    }

    private int drawn() {
        Texts.Node node = life.root;
        while (!node.isLeaf) {
            List<Integer> open = open(node, false);
            int by;
            if (node.items[1] == 1) {
                List<Integer> lots = new ArrayList<>();
                for (int i : open) {
                    for (int w = 0; w < node.branches.get(i).items[0]; w++) {
                        lots.add(i);
                    }
                }
                by = lots.get(draw(lots.size()));
            } else {
                by = rules[0] == 3 ? open.get(draw(open.size())) : chosen(node, false);
            }
            node = node.branches.get(by).to;
        }
        for (int i = 0; i < selves(); i++) {
            if (the(i).items == node.items) {
                return i;
            }
        }
        return HIDDEN;
    }

    int birthday(long seed) {
        if (life == null || born.size() == 60) {
            return NONE;
        }
        x = seed;
        born.add(drawn());
        return born.get(born.size() - 1);
    }

    int born(int i) {
        return i < 0 || i >= born.size() ? NONE : born.get(i);
    }

    int take() {
        if (born.isEmpty()) {
            return NONE;
        }
        born.remove(born.size() - 1);
        return born.size();
    }

    int town(int n, long seed, int self) {
        if (!isSelf(self) || n < 1 || n > 99) {
            return NONE;
        }
        x = seed;
        int many = 0;
        for (int i = 0; i < n; i++) {
            many += drawn() == self ? 1 : 0;
        }
        return many;
    }

    private int manyThere() {
        int many = 0;
        for (int i = 0; i < selves(); i++) {
            many += there(i) ? 1 : 0;
        }
        return many;
    }

    int image() {
        if (life == null) {
            return NONE;
        }
        imageRules = rules.clone();
        imageOpen = new ArrayList<>();
        for (Texts.Node fork : life.forks) {
            List<Boolean> open = new ArrayList<>();
            for (Texts.Branch branch : fork.branches) {
                open.add(branch.open);
            }
            imageOpen.add(open);
        }
        return manyThere();
    }

    int back() {
        if (imageRules == null) {
            return NONE;
        }
        rules = imageRules.clone();
        for (int i = 0; i < imageOpen.size(); i++) {
            for (int b = 0; b < imageOpen.get(i).size(); b++) {
                life.forks.get(i).branches.get(b).open = imageOpen.get(i).get(b);
            }
        }
        acts.clear();
        return manyThere();
    }

    int count(int what) {
        switch (what) {
            case 0: return lives.size();
            case 1: return at;
            case 2: return selves();
            case 3: return life == null ? 0 : life.forks.size();
            case 4: return tastes.size();
            case 5: return 0;
            case 6: return manyThere();
            case 7: case 8: case 9: case 10: return rules[what - 7];
            case 11: return clues.size();
            case 12: return born.size();
            case 13: return acts.size();
            default: return HIDDEN;
        }
    }
}
