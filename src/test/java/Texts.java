import java.util.ArrayList;
import java.util.List;

/** Makes LIVES and TASTES by chance: trees that print themselves as texts and can be reckoned from the document. */
final class Texts {
    private long seed;
    private int leavesLeft;

    Texts(long seed) {
        this.seed = seed;
    }

    int draw(int m) {
        seed = seed * 6364136223846793005L + 1442695040888963407L;
        return (int) ((seed >>> 33) % m);
    }

    private String blank() {
        return draw(12) == 0 ? " " : "";
    }

    static final class Node {
        boolean isLeaf;
        int[] items;
        final List<Branch> branches = new ArrayList<>();
        String head;

        @Override
        public String toString() {
            StringBuilder out = new StringBuilder(head);
            for (int i = 0; i < branches.size(); i++) {
                out.append(i == 0 ? "(" : ";").append(branches.get(i));
            }
            return out.append(isLeaf ? "" : ")").toString();
        }
    }

    static final class Branch {
        int[] items;
        Node to;
        String head;
        boolean open = true;

        @Override
        public String toString() {
            return head + ":" + to;
        }
    }

    private String items(String letters, int[] low, int[] high, int[] items) {
        StringBuilder out = new StringBuilder();
        int from = draw(letters.length());
        for (int n = 0; n < letters.length(); n++) {
            int i = (from + n) % letters.length();
            if (draw(3) == 0) {
                int span = high[i] - low[i] + 1;
                items[i] = low[i] + (draw(2) == 0 ? draw(Math.min(span, 4)) : draw(span));
                out.append(blank()).append(letters.charAt(i)).append(blank());
                out.append(items[i] < 10 && draw(5) == 0 ? "0" : "").append(items[i]);
            }
        }
        return out.append(blank()).toString();
    }

    private Node leaf() {
        Node node = new Node();
        node.isLeaf = true;
        node.items = new int[] {10, 50, 40, 0, 5};
        node.head = "l" + items("gjydt", new int[] {0, 0, 1, 0, 0}, new int[] {99, 99, 99, 1, 9}, node.items);
        return node;
    }

    private Node node(int deep, int size) {
        // A fork takes one leaf more than its place was counted for.
        if (deep >= 6 || leavesLeft < 1 || draw(10) >= size) {
            return leaf();
        }
        Node node = new Node();
        node.items = new int[] {20, 0};
        node.head = "f" + items("yk", new int[] {1, 0}, new int[] {99, 1}, node.items);
        int many = 2;
        while (many < 4 && many - 1 < leavesLeft && draw(2) == 0) {
            many++;
        }
        leavesLeft -= many - 1;
        for (int i = 0; i < many; i++) {
            Branch branch = new Branch();
            branch.items = new int[] {1, 0, 0, 0, -1};
            branch.head = items("wgjox", new int[] {1, 0, 0, 0, 0}, new int[] {9, 99, 99, 99, 9}, branch.items);
            branch.to = node(deep + 1, size);
            node.branches.add(branch);
        }
        return node;
    }

    /** A LIFE; the greater the size, the more FORKS. Never more than 240 bytes. */
    Node life(int size) {
        while (true) {
            leavesLeft = 11;
            Node node = node(0, size);
            if (node.toString().length() <= 240) {
                return node;
            }
        }
    }

    /** Any part of a TASTE: a sign with its parts; # is a number, letters are themselves. */
    static final class Part {
        final char sign;
        final int number;
        final Part[] parts;
        String text;

        Part(char sign, int number, Part... parts) {
            this.sign = sign;
            this.number = number;
            this.parts = parts;
        }

        @Override
        public String toString() {
            return text;
        }

        long at(int[] letters) {
            switch (sign) {
                case '#': return number;
                case '[': return parts[0].at(letters);
                case '+': return clip(parts[0].at(letters) + parts[1].at(letters));
                case '-': return clip(parts[0].at(letters) - parts[1].at(letters));
                case '*': return clip(parts[0].at(letters) * parts[1].at(letters));
                case '/':
                    long by = parts[1].at(letters);
                    return by == 0 ? 0 : clip(parts[0].at(letters) / by);
                default: return letters["gjoydtbw".indexOf(sign)];
            }
        }

        boolean holds(int[] letters) {
            switch (sign) {
                case '!': return !parts[0].holds(letters);
                case '(': return parts[0].holds(letters);
                case '|': return parts[0].holds(letters) || parts[1].holds(letters);
                case '&': return parts[0].holds(letters) && parts[1].holds(letters);
                case '=': return parts[0].at(letters) == parts[1].at(letters);
                case '<': return parts[0].at(letters) < parts[1].at(letters);
                default: return parts[0].at(letters) > parts[1].at(letters);
            }
        }

        /** Of a whole TASTE: CLAUSES of one part (a SUM) or two (a CONDITION ahead of it). */
        int worth(int[] letters) {
            for (Part clause : parts) {
                if (clause.parts.length == 1) {
                    return (int) clause.parts[0].at(letters);
                }
                if (clause.parts[0].holds(letters)) {
                    return (int) clause.parts[1].at(letters);
                }
            }
            return 0;
        }

        private static long clip(long number) {
            return number > 1000000 ? 1000000 : number < -1000000 ? -1000000 : number;
        }
    }

    private Part atom(int size, int open) {
        Part part;
        if (open < 6 && draw(10) < size) {
            Part sum = sum(size - 1, open + 1);
            part = new Part('[', 0, sum);
            part.text = "[" + blank() + sum + blank() + "]";
        } else if (draw(3) == 0) {
            part = new Part('#', draw(2) == 0 ? draw(100) : draw(10000));
            part.text = "" + part.number;
        } else {
            part = new Part("gjoydtbw".charAt(draw(8)), 0);
            part.text = "" + part.sign;
        }
        return part;
    }

    private Part chain(String signs, int size, int open) {
        boolean isTerm = signs.charAt(0) == '*';
        Part left = isTerm ? atom(size, open) : chain("*/", size, open);
        for (int i = draw(3); i > 0; i--) {
            Part right = isTerm ? atom(size, open) : chain("*/", size, open);
            Part both = new Part(signs.charAt(draw(2)), 0, left, right);
            both.text = left + blank() + both.sign + blank() + right;
            left = both;
        }
        return left;
    }

    private Part sum(int size, int open) {
        return chain("+-", size, open);
    }

    private Part unit(int size, int open) {
        Part part;
        int which = open < 6 ? draw(10) : 9;
        if (which < size) {
            Part inner = which % 2 == 0 ? unit(size, open + 1) : condition(size - 1, open + 1);
            part = new Part(which % 2 == 0 ? '!' : '(', 0, inner);
            part.text = part.sign + blank() + inner + blank() + (part.sign == '(' ? ")" : "");
        } else {
            Part left = sum(size - 1, open);
            Part right = sum(size - 1, open);
            part = new Part("=<>".charAt(draw(3)), 0, left, right);
            part.text = left + blank() + part.sign + blank() + right;
        }
        return part;
    }

    private Part truth(int size, int open) {
        Part left = unit(size, open);
        if (draw(3) > 0) {
            return left;
        }
        Part both = new Part('&', 0, left, unit(size, open));
        both.text = both.parts[0] + blank() + "&" + blank() + both.parts[1];
        return both;
    }

    private Part condition(int size, int open) {
        Part left = truth(size, open);
        if (draw(3) > 0) {
            return left;
        }
        Part both = new Part('|', 0, left, truth(size, open));
        both.text = both.parts[0] + blank() + "|" + blank() + both.parts[1];
        return both;
    }

    private Part clause(int size) {
        Part last = sum(size, 0);
        if (draw(2) == 0) {
            Part clause = new Part('y', 0, last);
            clause.text = "y" + blank() + ":" + last;
            return clause;
        }
        Part first = condition(size, 0);
        Part clause = new Part('y', 0, first, last);
        clause.text = "y:" + blank() + first + blank() + "?" + blank() + last;
        return clause;
    }

    Part taste(int size) {
        while (true) {
            Part[] clauses = new Part[1 + draw(3)];
            StringBuilder text = new StringBuilder(blank());
            for (int i = 0; i < clauses.length; i++) {
                clauses[i] = clause(size);
                text.append(i == 0 ? "" : ";" + blank()).append(clauses[i]);
            }
            Part taste = new Part(';', 0, clauses);
            taste.text = text + blank();
            if (taste.text.length() <= 240) {
                return taste;
            }
        }
    }
}
