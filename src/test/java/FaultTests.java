import java.util.ArrayList;
import java.util.HashSet;
import java.util.List;
import java.util.Set;

/**
 * Promise 4, FAULT: texts told by hand, and random ones against a second way to find it: all that may still be due
 * behind each byte is carried along (as texts of symbols), and the fault stands where nothing is left.
 */
public final class FaultTests {
    private static final Due DUE = new Due();
    private static long seed = 7;

    private static int draw(int m) {
        seed = seed * 6364136223846793005L + 1442695040888963407L;
        return (int) ((seed >>> 33) % m);
    }

    private static void lifeAt(String text, int want) {
        DUE.due("life " + text, Due.fault(text, 0), want);
    }

    private static void tasteAt(String text, int want) {
        DUE.due("taste " + text, Due.fault(text, 1), want);
    }

    // Symbols that wait to be read: C a clause, c a condition, t a truth, u a unit, s a sum, m a term, a an atom,
    // each with its depth behind it; ' and one sign: this sign. n and a digit: so many digits more may follow.
    private static List<String> unfolded(String stack) {
        List<String> out = new ArrayList<>();
        unfold(stack, out);
        return out;
    }

    private static void unfold(String stack, List<String> out) {
        if (stack.isEmpty() || stack.charAt(0) == '\'' || stack.charAt(0) == 'n' || stack.charAt(0) == 'N') {
            out.add(stack);
            return;
        }
        int d = stack.charAt(1) - '0';
        String rest = stack.substring(2);
        switch (stack.charAt(0)) {
            case 'C':
                for (String more : new String[] {"", "';C0"}) {
                    unfold("'y':s0" + more + rest, out);
                    unfold("'y':c0'?s0" + more + rest, out);
                }
                break;
            case 'c':
                unfold("t" + d + rest, out);
                unfold("t" + d + "'|c" + d + rest, out);
                break;
            case 't':
                unfold("u" + d + rest, out);
                unfold("u" + d + "'&t" + d + rest, out);
                break;
            case 'u':
                if (d < 6) {
                    unfold("'!u" + (d + 1) + rest, out);
                    unfold("'(c" + (d + 1) + "')" + rest, out);
                }
                for (char sign : "=<>".toCharArray()) {
                    unfold("s" + d + "'" + sign + "s" + d + rest, out);
                }
                break;
            case 's':
                unfold("m" + d + rest, out);
                unfold("m" + d + "'+s" + d + rest, out);
                unfold("m" + d + "'-s" + d + rest, out);
                break;
            case 'm':
                unfold("a" + d + rest, out);
                unfold("a" + d + "'*m" + d + rest, out);
                unfold("a" + d + "'/m" + d + rest, out);
                break;
            default:
                for (char letter : "gjoydtbw".toCharArray()) {
                    out.add("'" + letter + rest);
                }
                out.add("N4" + rest);
                if (d < 6) {
                    out.add("'[s" + (d + 1) + "']" + rest);
                }
        }
    }

    private static boolean isDigit(char c) {
        return c >= '0' && c <= '9';
    }

    /** What waits behind one byte more; a blank changes nothing but ends a number. */
    private static void step(String stack, char c, Set<String> out) {
        char first = stack.isEmpty() ? ' ' : stack.charAt(0);
        if (first == 'n') {
            int left = stack.charAt(1) - '0';
            if (isDigit(c)) {
                if (left > 0) {
                    out.add("n" + (left - 1) + stack.substring(2));
                }
                return;
            }
            step(stack.substring(2), c, out);
            return;
        }
        if (c == ' ') {
            out.add(stack);
            return;
        }
        for (String one : unfolded(stack)) {
            if (one.isEmpty()) {
                continue;
            }
            if (one.charAt(0) == 'N' && isDigit(c)) {
                out.add("n3" + one.substring(2));
            } else if (one.charAt(0) == '\'' && one.charAt(1) == c) {
                out.add(one.substring(2));
            } else if (one.charAt(0) == 'n') {
                step(one, c, out);
            }
        }
    }

    private static int tasteFaultOf(String text) {
        Set<String> now = new HashSet<>();
        now.add("C0");
        for (int i = 0; i < text.length(); i++) {
            Set<String> next = new HashSet<>();
            for (String stack : now) {
                step(stack, text.charAt(i), next);
            }
            if (next.isEmpty()) {
                return i;
            }
            now = next;
        }
        for (String stack : now) {
            if (stack.isEmpty() || stack.matches("n[0-9]")) {
                return -1;
            }
        }
        return text.length();
    }

    // A LIFE by a machine with a stack of forks: where = what is due.
    private static final String[] LETTERS = {"gjydt", "yk", "wgjox"};
    private static final int[][] LOW = {{0, 0, 1, 0, 0}, {1, 0}, {1, 0, 0, 0, 0}};
    private static final int[][] HIGH = {{99, 99, 99, 1, 9}, {99, 1}, {9, 99, 99, 99, 9}};

    private static int lifeFaultOf(String text) {
        int[] branches = new int[8];
        int deep = 0;
        int leaves = 0;
        int sort = -1;
        String seen = "";
        boolean done = false;
        int i = 0;
        while (i < text.length()) {
            char c = text.charAt(i);
            if (c == ' ') {
                i++;
                continue;
            }
            if (done) {
                return i;
            }
            if (sort < 0) {
                if (c == 'l' && leaves < 12) {
                    leaves++;
                    sort = 0;
                } else if (c == 'f' && deep < 6) {
                    deep++;
                    branches[deep] = 0;
                    sort = 1;
                } else {
                    return i;
                }
                seen = "";
                i++;
                continue;
            }
            int k = LETTERS[sort].indexOf(c);
            if (k >= 0) {
                if (seen.indexOf(c) >= 0) {
                    return i;
                }
                seen += c;
                int from = i + 1;
                while (from < text.length() && text.charAt(from) == ' ') {
                    from++;
                }
                int to = from;
                while (to < text.length() && isDigit(text.charAt(to))) {
                    to++;
                }
                if (to == from) {
                    return from;
                }
                if (to > from + 2) {
                    return from + 2;
                }
                int number = Integer.parseInt(text.substring(from, to));
                if (number < LOW[sort][k] || number > HIGH[sort][k]) {
                    return to - 1;
                }
                i = to;
                continue;
            }
            if (sort == 1 && c == '(') {
                sort = 2;
                seen = "";
            } else if (sort == 2 && c == ':') {
                sort = -1;
            } else if (sort == 0 && deep > 0 && c == ';' && branches[deep] < 3) {
                branches[deep]++;
                sort = 2;
                seen = "";
            } else if (sort == 0 && deep > 0 && c == ')' && branches[deep] > 0) {
                deep--;
                // Behind a node closed by ) no items stand: all of them count as seen.
                seen = LETTERS[0];
            } else {
                return i;
            }
            i++;
        }
        return sort == 0 && deep == 0 ? -1 : text.length();
    }

    private static void byHandLife() {
        lifeAt("", 0);
        lifeAt(" ", 1);
        lifeAt("l", -1);
        lifeAt("  l  ", -1);
        lifeAt("lg0j0y1d0t0", -1);
        lifeAt("lg99j99y99d1t9", -1);
        lifeAt("l g 99 t 9", -1);
        lifeAt("ly05d01t09", -1);
        lifeAt("lg", 2);
        lifeAt("lg ", 3);
        lifeAt("lgj", 2);
        lifeAt("lg100", 4);
        lifeAt("ld999", 4);
        lifeAt("ly000", 4);
        lifeAt("lg099", 4);
        lifeAt("ly001", 4);
        lifeAt("lt0091", 4);
        lifeAt("lg1 2", 4);
        lifeAt("ly0", 2);
        lifeAt("ly00", 3);
        lifeAt("ly0 1", 2);
        lifeAt("ld2", 2);
        lifeAt("ld10", 3);
        lifeAt("lt10", 3);
        lifeAt("lg1g2", 3);
        lifeAt("lk1", 1);
        lifeAt("lw1", 1);
        lifeAt("ll", 1);
        lifeAt("l;", 1);
        lifeAt("l)", 1);
        lifeAt("x", 0);
        lifeAt("L", 0);
        lifeAt("f", 1);
        lifeAt("fy0", 2);
        lifeAt("fk2", 2);
        lifeAt("fk10", 3);
        lifeAt("fy1y2", 3);
        lifeAt("fg1", 1);
        lifeAt("f(", 2);
        lifeAt("f(:", 3);
        lifeAt("f()", 2);
        lifeAt("f(l;:l)", 2);
        lifeAt("f(w0:l", 3);
        lifeAt("f(w10:l", 4);
        lifeAt("f(x10:l", 4);
        lifeAt("f(w1w2:l", 4);
        lifeAt("f(y1:l", 2);
        lifeAt("f(w9g99j99o99x9:l;:l)", -1);
        lifeAt("f(w1g100", 7);
        lifeAt("fk0y99(w1g0j0o0x0:l;:l)", -1);
        lifeAt("fk01(w09x09:l;:l)", -1);
        lifeAt("f(:l)", 4);
        lifeAt("f(:l;:l", 7);
        lifeAt("f(:l;:l)", -1);
        lifeAt("f(:l;:l)l", 8);
        lifeAt("f(:l;:l;:l;:l)", -1);
        lifeAt("f(:l;:l;:l;:l;:l)", 13);
        lifeAt("f(:l;)", 5);
        lifeAt("f(:l;:l))", 8);
        lifeAt("f(:f(:f(:f(:f(:f(:l;:l);:l);:l);:l);:l);:l)", -1);
        lifeAt("f(:f(:f(:f(:f(:f(:f", 18);
        String four = "f(:l;:l;:l;:l)";
        lifeAt("f(:" + four + ";:" + four + ";:" + four + ")", -1);
        String full = "f(:" + four + ";:" + four + ";:" + four;
        lifeAt(full + ";:l)", full.length() + 2);
        lifeAt(full + ";:f(:l", full.length() + 5);
        lifeAt("l\u00ff", 1);
    }

    private static void byHandTaste() {
        tasteAt("", 0);
        tasteAt("y", 1);
        tasteAt("y:", 2);
        tasteAt("y :  g ", -1);
        tasteAt("y:0", -1);
        tasteAt("y:9999", -1);
        tasteAt("y:0000", -1);
        tasteAt("y:12345", 6);
        tasteAt("y:00000", 6);
        tasteAt("y:12 3", 5);
        tasteAt("y:g+j-o*y/d+t*b-w", -1);
        tasteAt("y:z", 2);
        tasteAt("y:x", 2);
        tasteAt("y:-1", 2);
        tasteAt("y:gj", 3);
        tasteAt("y:g;", 4);
        tasteAt("y:g;y:j", -1);
        tasteAt("y:g;;", 4);
        tasteAt("g:j", 0);
        tasteAt("y:g>1", 5);
        tasteAt("y:g>1;y:g", 5);
        tasteAt("y:g>1?2", -1);
        tasteAt("y:g>1?2?3", 7);
        tasteAt("y:g?2", 3);
        tasteAt("y:g&1", 3);
        tasteAt("y:g|j=1?2", 3);
        tasteAt("y:g=1=2", 5);
        tasteAt("y:g=1&j?2", 7);
        tasteAt("y:g=1&j<2|!t>5?2", -1);
        tasteAt("y:(g=1)?2", -1);
        tasteAt("y:(g)", 4);
        tasteAt("y:(g=1", 6);
        tasteAt("y:(g=1)", 7);
        tasteAt("y:(g=1)+2", 7);
        tasteAt("y:[g+1]*2", -1);
        tasteAt("y:[g+1]*2=4?5", -1);
        tasteAt("y:[g=1]", 4);
        tasteAt("y:[]", 3);
        tasteAt("y:!g", 4);
        tasteAt("y:!!!!!!g=1?1", -1);
        tasteAt("y:!!!!!!!g=1?1", 8);
        tasteAt("y:[[[[[[g]]]]]]", -1);
        tasteAt("y:[[[[[[[", 8);
        tasteAt("y:[[[[[[g]]]]]]=[[[[[[g]]]]]]?[[[[[[g]]]]]];y:[[[[[[g]]]]]]", -1);
        tasteAt("y:g=1?[[[[[[[", 12);
        tasteAt("y:((((((g=1))))))?1", -1);
        tasteAt("y:(((((((", 8);
        tasteAt("y:!(!(!([", 8);
        tasteAt("y:!(!(!g=[[", 10);
        tasteAt("y:!(!([[[", 8);
        tasteAt("y:!g=1&!g=1&!g=1&!g=1&!g=1&!g=1&!g=1?1", -1);
        tasteAt("y:[g]+[g]+[g]+[g]+[g]+[g]+[g]", -1);
    }

    private static final String LIFE_SIGNS = "lf(:;)gjydtkwox0123 9";
    private static final String TASTE_SIGNS = "y:;gjoydtbw[]()!&|=<>+-*/?0123 9";

    private static String spoiled(String text, String signs) {
        StringBuilder out = new StringBuilder(text);
        for (int times = draw(3); times > 0 && out.length() > 0; times--) {
            int at = draw(out.length());
            switch (draw(4)) {
                case 0: out.deleteCharAt(at); break;
                case 1: out.insert(at, signs.charAt(draw(signs.length()))); break;
                case 2: out.setCharAt(at, signs.charAt(draw(signs.length()))); break;
                default: out.setLength(at); break;
            }
        }
        return out.length() > 240 ? out.substring(0, 240) : out.toString();
    }

    private static void byChance() {
        OtherSelves x = new OtherSelves();
        Texts texts = new Texts(99);
        for (int i = 0; i < 20000 && DUE.isAllRight(); i++) {
            String life = spoiled(texts.life(draw(8)).toString(), LIFE_SIGNS);
            if (i % 200 == 0) {
                x = new OtherSelves();
            }
            Due.tape(x, life);
            DUE.due("life " + life, x.fault(0), lifeFaultOf(life));
            String taste = spoiled(texts.taste(draw(4)).toString(), TASTE_SIGNS);
            if (taste.length() < 32) {
                Due.tape(x, taste);
                DUE.due("taste " + taste, x.fault(1), tasteFaultOf(taste));
            }
        }
    }

    private static void otherSorts() {
        OtherSelves x = Due.at("l");
        for (int sort : new int[] {-2000000000, -2, -1, 2, 3, 2000000000}) {
            DUE.due("fault(" + sort + ")", x.fault(sort), -2);
        }
        Due.tape(x, "l");
        DUE.due("fault keeps the tape", x.fault(0) + x.fault(1) + x.count(5), -1 + 0 + 1);
    }

    public static void main(String[] args) {
        byHandLife();
        byHandTaste();
        otherSorts();
        byChance();
        DUE.close("FaultTests");
    }
}
