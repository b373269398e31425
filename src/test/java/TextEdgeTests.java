/** Part 1 of the Terms, and promises 1 to 5: each sentence that names a boundary case, by a test of its own. */
public final class TextEdgeTests {
    private static final int NONE = Edge.NONE;
    private static final int LEAST = Edge.LEAST;
    private static final int MOST = Edge.MOST;
    private static final Edge EDGE = new Edge();
    private static final String FOUR = "f(:l;:l;:l;:l)";
    private static final String DIGITS = "0123456789";
    private static final String ATOMS = "gjoydtbw[" + DIGITS + " ";

    // Letters with their bounds: of a LEAF, a FORK, a BRANCH.
    private static final String LEAF_LETTERS = "gjydt";
    private static final int[] LEAF_LEAST = {0, 0, 1, 0, 0};
    private static final int[] LEAF_MOST = {99, 99, 99, 1, 9};
    private static final String FORK_LETTERS = "yk";
    private static final int[] FORK_LEAST = {1, 0};
    private static final int[] FORK_MOST = {99, 1};
    private static final String BRANCH_LETTERS = "wgjox";
    private static final int[] BRANCH_LEAST = {1, 0, 0, 0, 0};
    private static final int[] BRANCH_MOST = {9, 99, 99, 99, 9};

    /** FAULT asked twice, nothing changed by it; as a TEXT it is told or refused accordingly, on a new object. */
    private static void at(int sort, String text, int want) {
        OtherSelves x = new OtherSelves();
        int bytes = text.isEmpty() ? 0 : Due.tape(x, text);
        String call = (sort == 0 ? "life " : "taste ") + text;
        EDGE.is(call, x.fault(sort), want);
        EDGE.is(call + ", asked twice", x.fault(sort), want);
        EDGE.is(call + " stays on the tape", x.count(5), bytes);
        EDGE.is(call + " as a text", x.text(sort), want == NONE ? 0 : NONE);
        EDGE.is(call + ", what is left of the tape", x.count(5), want == NONE ? 0 : bytes);
        EDGE.is(call + ", how many", x.count(sort == 0 ? 0 : 4), want == NONE ? 1 : 0);
        EDGE.is(call + ", of the other sort", x.count(sort == 0 ? 4 : 0), 0);
    }

    private static void life(String text, int want) {
        at(0, text, want);
    }

    private static void taste(String text, int want) {
        at(1, text, want);
    }

    /** Each byte behind the text: the FAULT is there, but for those bytes that may stand there. */
    private static void next(int sort, String text, String may) {
        OtherSelves x = new OtherSelves();
        Due.tape(x, text);
        for (int one = 1; one < 256; one++) {
            x.end(text.length());
            x.feed(one, 0, 0, 0, 0);
            int fault = x.fault(sort);
            boolean refused = fault == text.length();
            EDGE.is("byte " + one + " behind " + text + " is a fault", refused, may.indexOf((char) one) < 0);
            EDGE.is("no fault ahead of it", fault == NONE || fault >= text.length(), true);
            if (one == 127) {
                x = new OtherSelves();
                Due.tape(x, text);
            }
        }
    }

    private static void lifeIsOneNode() {
        EDGE.sentence("Terms 1", "A LIFE is a TEXT: a NODE");
        life("", 0);
        life("l", NONE);
        life("ll", 1);
        life("lf", 1);
        life("f(:l;:l)", NONE);
        life("f(:l;:l)l", 8);
        life("f(:l;:l);", 8);
        next(0, "", "lf ");
        next(0, " ", "lf ");
        next(0, "f(:l;:l)", " ");
    }

    private static void leafAndItems() {
        EDGE.sentence("Terms 1", "LEAF: l, then ITEMS, none or more: a letter, each once at most");
        life("lg1j2y3d1t4", NONE);
        life("lt4d1y3j2g1", NONE);
        next(0, "l", LEAF_LETTERS + " ");
        next(0, "lg1", DIGITS + "jydt ");
        next(0, "lg12", "jydt ");
        next(0, "lg1 ", "jydt ");
        next(0, "lg1j1y1d1t1", " ");
        for (int i = 0; i < LEAF_LETTERS.length(); i++) {
            char letter = LEAF_LETTERS.charAt(i);
            life("l" + letter + "1" + letter + "1", 3);
            life("lg1j1y1d1t1" + letter + "1", 11);
            life("l" + letter, 2);
            next(0, "l" + letter, DIGITS.substring(LEAF_LEAST[i], Math.min(9, LEAF_MOST[i]) + 1) + " ");
        }
    }

    private static void forkAndItems() {
        EDGE.sentence("Terms 1", "FORK: f, ITEMS likewise; then ( BRANCHES ) with ; between, two to four");
        next(0, "f", "yk( ");
        next(0, "fy1", DIGITS + "k( ");
        next(0, "fk0", DIGITS.substring(0, 2) + "y( ");
        next(0, "fk1", "y( ");
        next(0, "fk1y1", "( " + DIGITS);
        life("fy1y1(:l;:l)", 3);
        life("fk1k1(:l;:l)", 3);
        life("fy1k1y1(:l;:l)", 5);
        life("f", 1);
        life("f(", 2);
        life("f()", 2);
        life("f:l;:l)", 1);
        life("f(:l)", 4);
        life("f(:l;)", 5);
        life("f(:l;:l)", NONE);
        life("f(:l;:l;:l)", NONE);
        life(FOUR, NONE);
        life("f(:l;:l;:l;:l;:l)", 13);
        life("f(:l;:l;:l;:l;", 13);
        life("f(:l;:l;:l;:l", 13);
        next(0, "f(:l", LEAF_LETTERS + "; ");
        next(0, "f(:l;:l", LEAF_LETTERS + ";) ");
        next(0, "f(:l;:l;:l", LEAF_LETTERS + ";) ");
        next(0, "f(:l;:l;:l;:l", LEAF_LETTERS + ") ");
        next(0, "f(:f(:l;:l)", "; ");
        next(0, "f(:l;:f(:l;:l)", ";) ");
        next(0, "f(:l;:l;:l;:f(:l;:l)", ") ");
    }

    private static void branchAndItems() {
        EDGE.sentence("Terms 1", "BRANCH: ITEMS likewise, then : and a NODE");
        next(0, "f(", BRANCH_LETTERS + ": ");
        next(0, "f(w1", "gjox: ");
        next(0, "f(g1", "wjox: " + DIGITS);
        next(0, "f(w1g1j1o1x1", ": ");
        next(0, "f(:", "lf ");
        next(0, "f(:l;", BRANCH_LETTERS + ": ");
        next(0, "f(:l;:", "lf ");
        life("f(x1o2j3g4w5:l;w5g4j3o2x1:l)", NONE);
        for (int i = 0; i < BRANCH_LETTERS.length(); i++) {
            char letter = BRANCH_LETTERS.charAt(i);
            life("f(" + letter + "1" + letter + "1:l;:l)", 4);
            life("f(w1g1j1o1x1" + letter + "1:l;:l)", 12);
            life("f(:l;" + letter + "1" + letter + "1:l)", 7);
            life("f(" + letter + "1:l;" + letter + "1:l)", NONE);
            life("f(" + letter + ":l;:l)", 3);
        }
    }

    /** All numbers of one, two and three digits behind one letter. */
    private static void numbers(String head, String tail, char letter, int least, int most) {
        int from = head.length() + 1;
        for (int n = 0; n < 100; n++) {
            boolean taken = n >= least && n <= most;
            if (n < 10) {
                life(head + letter + n + tail, taken ? NONE : from);
                life(head + letter + n + " " + tail, taken ? NONE : from);
                life(head + letter + " 0" + n + tail, taken ? NONE : from + 2);
                life(head + letter + n + " 1", taken ? from + 2 : from);
            } else {
                life(head + letter + n + tail, taken ? NONE : from + 1);
            }
        }
        for (String three : new String[] {"000", "001", "100", "101", "999", "099", "990"}) {
            life(head + letter + three + tail, from + 2);
            life(head + letter + three + "9" + tail, from + 2);
        }
        life(head + letter + tail, from);
        life(head + letter, from);
    }

    private static void boundsOfNumbers() {
        EDGE.sentence("Terms 1", "a number (one or two digits); a number out of bounds is wrong at its last digit, "
            + "a third digit (whatever stands ahead of it) itself");
        for (int i = 0; i < LEAF_LETTERS.length(); i++) {
            numbers("l", "", LEAF_LETTERS.charAt(i), LEAF_LEAST[i], LEAF_MOST[i]);
            numbers("f(:l;:l", ")", LEAF_LETTERS.charAt(i), LEAF_LEAST[i], LEAF_MOST[i]);
        }
        for (int i = 0; i < FORK_LETTERS.length(); i++) {
            numbers("f", "(:l;:l)", FORK_LETTERS.charAt(i), FORK_LEAST[i], FORK_MOST[i]);
            numbers("f(:l;:f", "(:l;:l))", FORK_LETTERS.charAt(i), FORK_LEAST[i], FORK_MOST[i]);
        }
        for (int i = 0; i < BRANCH_LETTERS.length(); i++) {
            numbers("f(", ":l;:l)", BRANCH_LETTERS.charAt(i), BRANCH_LEAST[i], BRANCH_MOST[i]);
            numbers("f(:l;", ":l)", BRANCH_LETTERS.charAt(i), BRANCH_LEAST[i], BRANCH_MOST[i]);
        }
    }

    private static void numbersAreTold() {
        EDGE.sentence("Terms 1", "g GOODS (0 .. 99), j JOY (0 .. 99), y YEARS (1 .. 99), d DEAD (0, 1), t TEMPER (0 .. 9)");
        int[] what = {0, 1, 3, 4, 5};
        for (int i = 0; i < 5; i++) {
            for (int n = LEAF_LEAST[i]; n <= LEAF_MOST[i]; n++) {
                EDGE.is("l" + LEAF_LETTERS.charAt(i) + n, Due.at("l" + LEAF_LETTERS.charAt(i) + n).self(0, what[i]), n);
            }
        }
        EDGE.sentence("Terms 1", "y YEAR (1 .. 99), k KIND (0, 1)");
        for (int i = 0; i < 2; i++) {
            for (int n = FORK_LEAST[i]; n <= FORK_MOST[i]; n++) {
                String text = "f" + FORK_LETTERS.charAt(i) + n + "(:l;:l)";
                EDGE.is(text, Due.at(text).fork(0, i), n);
            }
        }
        EDGE.sentence("Terms 1", "w WEIGHT (1 .. 9), g GOODS (0 .. 99), j JOY (0 .. 99), o OWES (0 .. 99), x FACT (0 .. 9)");
        for (int i = 0; i < 5; i++) {
            for (int n = BRANCH_LEAST[i]; n <= BRANCH_MOST[i]; n++) {
                String text = "f(:l;" + BRANCH_LETTERS.charAt(i) + n + ":l)";
                EDGE.is(text, Due.at(text).branch(0, 1, i), n);
            }
        }
        EDGE.is("a 0 ahead", Due.at("lg07").self(0, 0), 7);
    }

    private static void withoutItems() {
        EDGE.sentence("Terms 1", "without: GOODS 10, JOY 50, YEARS 40, DEAD 0, TEMPER 5");
        // The ITEMS of the LEAF ahead are not those of the next one.
        for (String text : new String[] {"f(:l;:l)", "f(w2g1j1o1x1:lg1j1y1d1t1;:l)"}) {
            OtherSelves x = Due.at(text);
            int[] want = {10, 50, 0, 40, 0, 5, 0};
            for (int what = 0; what < 7; what++) {
                EDGE.is("self(1, " + what + ") of " + text, x.self(1, what), want[what]);
            }
            EDGE.sentence("Terms 1", "without: WEIGHT 1, GOODS 0, JOY 0, OWES 0, FACT none");
            int[] branch = {1, 0, 0, 0, NONE};
            for (int what = 0; what < 5; what++) {
                EDGE.is("branch(0, 1, " + what + ") of " + text, x.branch(0, 1, what), branch[what]);
            }
        }
        EDGE.sentence("Terms 1", "without: YEAR 20, KIND 0");
        OtherSelves x = Due.at("fy3k1(:l;:f(:l;:l))");
        EDGE.is("year", x.fork(1, 0), 20);
        EDGE.is("kind", x.fork(1, 1), 0);
        EDGE.is("year of the first", x.fork(0, 0), 3);
        EDGE.is("kind of the first", x.fork(0, 1), 1);
    }

    private static void twelveLeaves() {
        EDGE.sentence("Terms 1", "At most 12 LEAVES; FAULT: a thirteenth l");
        String eight = "f(:" + FOUR + ";:" + FOUR;
        String twelve = eight + ";:" + FOUR;
        life(twelve + ")", NONE);
        life(eight + ";:f(:l;:l;:l);:l)", NONE);
        life(eight + ";:f(:l;:l;:l);:f(:l;:l))", (eight + ";:f(:l;:l;:l);:f(:l;:").length());
        life(twelve + ";:l)", (twelve + ";:").length());
        life(twelve + ";:", (twelve + ";:").length());
        life(twelve + ";:f(:", (twelve + ";:f(:").length());
        life(twelve + ";:f(:l", (twelve + ";:f(:").length());
        next(0, twelve + ";:", "f ");
        next(0, twelve, ";) ");
        EDGE.is("how many", Due.at(twelve + ")").count(2), 12);
        String deep = "f(:f(:f(:f(:f(:f(:l;:l);:l;:l);:l;:l);:l;:l);:l;:l);:l;:l)";
        life(deep, NONE);
        life(deep.replace("(:l;:l)", "(:l;:l;:l)"), deep.length() - 1 - 1 + 3);
        EDGE.is("six deep", Due.at(deep).count(2), 12);
        EDGE.is("six deep, the way of the first", Due.at(deep).self(0, 8), 6);
    }

    private static void sixForks() {
        EDGE.sentence("Terms 1", "at most six FORKS within one another; FAULT: an f within six");
        life("f(:f(:f(:f(:f(:f(:l;:l);:l);:l);:l);:l);:l)", NONE);
        life("f(:l;:f(:l;:f(:l;:f(:l;:f(:l;:f(:l;:l))))))", NONE);
        life("f(:f(:f(:f(:f(:f(:f(:l;:l);:l);:l);:l);:l);:l);:l)", 18);
        life("f(:f(:f(:f(:f(:f(:l;:f(:l;:l))", 21);
        life("f(:f(:f(:f(:f(:f(:l;:l);:f(:f(", 28);
        next(0, "f(:f(:f(:f(:f(:f(:", "l ");
        next(0, "f(:f(:f(:f(:f(:", "lf ");
        next(0, "f(:f(:f(:f(:f(:f(:l;:", "l ");
        String two = "f(:l;:l)";
        life("f(:" + two + ";:" + two + ";:" + two + ";:" + two + ")", NONE);
        String four = "f(:" + two + ";:" + two + ")";
        String eleven = "f(:f(:" + four + ";:" + four + ");:" + four + ")";
        life(eleven, NONE);
        EDGE.is("eleven forks", Due.at(eleven).count(3), 11);
        EDGE.is("of twelve selves", Due.at(eleven).count(2), 12);
        EDGE.is("a self behind the last fork", Due.at(eleven).branch(10, 1, 6), 11);
    }

    private static void threeLives() {
        EDGE.sentence("Terms 1", "LIVES: 3 at most");
        OtherSelves x = new OtherSelves();
        for (int i = 0; i < 3; i++) {
            EDGE.is("life " + i, Due.life(x, "lg" + i), i);
        }
        EDGE.is("a fourth", Due.life(x, "lg9"), NONE);
        EDGE.is("three lives", x.count(0), 3);
        EDGE.is("the third stays at the table", x.self(0, 0), 2);
        EDGE.refused(Edge::full, "text(0) of a fourth life", y -> y.text(0), NONE);
        EDGE.sentence("Terms 1", "TASTES (6 at most)");
        for (int i = 0; i < 6; i++) {
            EDGE.is("taste " + i, Due.taste(x, "y:" + i), i);
        }
        EDGE.is("a seventh", Due.taste(x, "y:7"), NONE);
        EDGE.is("six tastes", x.count(4), 6);
        EDGE.refused(TextEdgeTests::seventhTaste, "text(1) of a seventh taste", y -> y.text(1), NONE);
    }

    private static OtherSelves seventhTaste() {
        OtherSelves x = Edge.full();
        Due.tape(x, "y:5");
        return x;
    }

    private static void clauses() {
        EDGE.sentence("Terms 1", "CLAUSES with ; between, one at least: y, : , perhaps CONDITION ?, then SUM");
        taste("", 0);
        taste("y", 1);
        taste("y:", 2);
        taste("y:1", NONE);
        taste(";", 0);
        taste(":1", 0);
        taste("y:1;", 4);
        taste("y:1;;y:1", 4);
        taste("y:1;y:2", NONE);
        taste("y:1;y", 5);
        taste("y:1;y:", 6);
        taste("y1", 1);
        taste("y:1=1?2;y:3<4?5;y:6", NONE);
        taste("y:1=1?", 6);
        taste("y:1=1", 5);
        taste("y:1=1;y:2", 5);
        taste("y:1=1?2=3?4", 7);
        taste("y:1?2", 3);
        taste("y:?2", 2);
        next(1, "", "y ");
        next(1, "y", ": ");
        next(1, "y:1;", "y ");
        next(1, "y:g=1?g", "+-*/; ");
        next(1, "y:g=1?", ATOMS);
        next(1, "y:g", "+-*/=<>; ");
    }

    private static void longest() {
        EDGE.sentence("Terms 1", "CLAUSES with ; between: as many as the TAPE takes");
        StringBuilder text = new StringBuilder("y:g");
        while (text.length() + 4 < 240) {
            text.append(";y:j");
        }
        taste(text.toString(), NONE);
        EDGE.sentence("Terms 1", "SUM: TERMS with + or - between: as many as the TAPE takes");
        text = new StringBuilder("y:1");
        while (text.length() + 2 <= 240) {
            text.append("+1");
        }
        taste(text.toString(), NONE);
        OtherSelves x = Due.at("l", text.toString());
        x.set(2, 0);
        EDGE.is("119 of 1", x.worth(0), 119);
        EDGE.sentence("Terms 1", "CONDITION: TRUTHS with | between; TRUTH: UNITS with & between: as many as the TAPE takes");
        text = new StringBuilder("y:0=1");
        while (text.length() + 10 < 240) {
            text.append("&0=1|0=1");
        }
        taste(text + "?2", NONE);
        taste(text.toString(), text.length());
    }

    private static void conditions() {
        EDGE.sentence("Terms 1", "UNIT: ! UNIT, ( CONDITION ), or SUM, one of = < >, SUM");
        next(1, "y:!", ATOMS + "!(");
        next(1, "y:(", ATOMS + "!(");
        next(1, "y:g=1&", ATOMS + "!(");
        next(1, "y:g=1|", ATOMS + "!(");
        next(1, "y:!g", "+-*/=<> ");
        next(1, "y:(g", "+-*/=<> ");
        next(1, "y:g=", ATOMS);
        next(1, "y:g<", ATOMS);
        next(1, "y:g>", ATOMS);
        next(1, "y:g=j", "+-*/&|? ");
        next(1, "y:!g=j", "+-*/&|? ");
        next(1, "y:(g=j", "+-*/&|) ");
        next(1, "y:(g=j)", "&|? ");
        next(1, "y:!(g=j)", "&|? ");
        next(1, "y:((g=j)", "&|) ");
        next(1, "y:g=1&(g=j)", "&|? ");
        EDGE.sentence("Terms 1", "(A CLAUSE that goes on with ! or ( behind its : has a CONDITION.)");
        taste("y:(g)", 4);
        taste("y:(g+1)*2", 6);
        taste("y:(g=1)", 7);
        taste("y:(g=1)*2", 7);
        taste("y:(g=1)?2", NONE);
        taste("y:!g", 4);
        taste("y:!g=1", 6);
        taste("y:!g=1;y:2", 6);
        taste("y:!g=1?2", NONE);
        taste("y:!!g=1?2", NONE);
        taste("y:!(g=1)?2", NONE);
    }

    private static void sums() {
        EDGE.sentence("Terms 1", "SUM: TERMS with + or -; TERM: ATOMS with * or /; ATOM: a number, a letter, [ SUM ]");
        next(1, "y:", ATOMS + "!(");
        for (char sign : "+-*/".toCharArray()) {
            next(1, "y:g" + sign, ATOMS);
            taste("y:g" + sign, 4);
            taste("y:" + sign + "g", 2);
            taste("y:g" + sign + "j", NONE);
        }
        next(1, "y:[", ATOMS);
        next(1, "y:[g", "+-*/] ");
        next(1, "y:[g]", "+-*/=<>; ");
        taste("y:[g=1]", 4);
        taste("y:[g", 4);
        taste("y:[]", 3);
        taste("y:g j", 4);
        taste("y:2g", 3);
        taste("y:g2", 3);
        EDGE.sentence("Terms 1", "a letter (g j o y d t b w)");
        for (char letter : "gjoydtbw".toCharArray()) {
            taste("y:" + letter, NONE);
        }
        for (char letter : "acefhiklmnpqrsuvxzGJOYDTBW".toCharArray()) {
            taste("y:" + letter, 2);
        }
    }

    private static void numbersOfTastes() {
        EDGE.sentence("Terms 1", "a number (1 to 4 digits); a fifth one in a TASTE itself");
        for (int n : new int[] {0, 1, 9, 10, 99, 100, 999, 1000, 9998, 9999}) {
            taste("y:" + n, NONE);
            OtherSelves x = Due.at("l", "y:" + n);
            x.set(2, 0);
            EDGE.is("worth by y:" + n, x.worth(0), n);
        }
        taste("y:0000", NONE);
        taste("y:00000", 6);
        taste("y:10000", 6);
        taste("y:99999", 6);
        taste("y:99999999999", 6);
        taste("y:g=00001?1", 8);
        taste("y:g=1?12345", 10);
        taste("y:[00000]", 7);
        taste("y:1 2", 4);
        taste("y:1234 5", 7);
        next(1, "y:123", DIGITS + "+-*/=<>; ");
        next(1, "y:1234", "+-*/=<>; ");
        next(1, "y:1 ", "+-*/=<>; ");
        OtherSelves x = Due.at("l", "y:0042");
        x.set(2, 0);
        EDGE.is("zeros ahead", x.worth(0), 42);
    }

    private static void sixWithinOneAnother() {
        EDGE.sentence("Terms 1", "At most six of ( [ ! within one another; FAULT: a seventh");
        for (String sign : new String[] {"(", "[", "!"}) {
            String six = "y:" + sign.repeat(6);
            String close = sign.equals("(") ? ")".repeat(6) : sign.equals("[") ? "]".repeat(6) : "";
            String inner = sign.equals("[") ? "g" : "g=1";
            taste(six + inner + close + (sign.equals("[") ? "" : "?1"), NONE);
            taste(six + sign + inner + close, 8);
            taste(six + "[", 8);
            taste(six, 8);
        }
        taste("y:!(!(!(", 8);
        taste("y:!(!(!(!", 8);
        taste("y:!(!(!([", 8);
        taste("y:!(!(!((", 8);
        taste("y:!(!([[g]]=1))?1", NONE);
        taste("y:!(!([[[g]]]=1))?1", 8);
        taste("y:!!!!!!g=[g]?1", 10);
        taste("y:!!!!![g]=[g]?[[[[[[g]]]]]]", NONE);
        taste("y:!!!!!!g=1?[[[[[[g]]]]]]", NONE);
        taste("y:!!!!!!g=1?[[[[[[[", 18);
        taste("y:!!!!!!g=1&!!!!!!g=1|!!!!!!g=1?1", NONE);
        taste("y:!!!!!!g=1&!!!!!!!g=1", 18);
        taste("y:(((((([", 8);
        taste("y:((((((g=1))))))&[[[[[[g]]]]]]=1?1;y:!!!!!!g=1?1", NONE);
        taste("y:[g]+[g]*[g]-[g]/[g]+[g]+[g]=[g]?[g]", NONE);
    }

    private static void blanks() {
        EDGE.sentence("Terms 1", "Blanks (32) may stand between all signs of both, not within numbers");
        String[] signs = {"f", "y", "10", "k", "1", "(", "w", "2", "g", "3", "j", "4", "o", "5", "x", "6", ":", "l", "g",
            "99", "t", "0", ";", ":", "f", "(", ":", "l", ";", ":", "l", ")", ")"};
        life(String.join("", signs), NONE);
        life(String.join(" ", signs), NONE);
        life("   " + String.join("   ", signs) + "  ", NONE);
        OtherSelves x = Due.at(String.join("  ", signs));
        EDGE.is("goods", x.self(0, 0), 102);
        EDGE.is("year", x.fork(0, 0), 10);
        String[] tastes = {"y", ":", "!", "(", "g", "+", "12", "=", "[", "j", "]", ")", "|", "b", "<", "3", "&", "w", ">",
            "4", "?", "d", "*", "5", "/", "6", "-", "7", ";", "y", ":", "t"};
        taste(String.join("", tastes), NONE);
        taste(String.join(" ", tastes), NONE);
        taste("  " + String.join("  ", tastes) + "   ", NONE);
        life("lg1 2", 4);
        life("lg 1 2", 5);
        life("fy1 0(:l;:l)", 4);
        life("f(g1 0:l;:l)", 5);
        life(" ", 1);
        life("    ", 4);
        taste(" ", 1);
        for (int one = 1; one < 32; one++) {
            life("l" + (char) one, 1);
            life((char) one + "l", 0);
            taste("y:" + (char) one + "g", 2);
        }
    }

    private static void endsTooEarly() {
        EDGE.sentence("Terms 1", "FAULT: the length, if it ends too early");
        String text = "fy10k1(w2g30j4o5x6:ly5d1;:f(:l;:l))";
        for (int n = 0; n < text.length(); n++) {
            life(text.substring(0, n), n);
        }
        life(text, NONE);
        String taste = "y:!(g+2=[j-3])|b<4&w>5?d*6/7";
        for (int n = 0; n <= taste.indexOf("d"); n++) {
            taste(taste.substring(0, n), n);
        }
        taste(taste, NONE);
        life("ly0", 2);
        life("ld2", 2);
    }

    private static void newObject() {
        EDGE.sentence("Promise 1", "No LIFE");
        int[] want = {0, NONE, 0, 0, 0, 0, 0, 0, NONE, NONE, 0, 0, 0, 0};
        for (int what = 0; what < 14; what++) {
            int i = what;
            EDGE.asked(Edge::empty, "count(" + what + ")", x -> x.count(i), want[what]);
        }
        EDGE.is("two objects: one does not tell the other", Due.life(new OtherSelves(), "l") + new OtherSelves().count(0), 0);
    }

    private static void feedCounts() {
        EDGE.sentence("Promise 2", "Twenty bytes more come to the TAPE (of each number the highest first)");
        OtherSelves x = new OtherSelves();
        EDGE.is("twenty", x.feed(0x66283a6c, 0x67313b3a, 0x6c673229, 0x20202020, 0x20202020), 20);
        EDGE.is("is f(:lg1;:lg2)", x.fault(0), NONE);
        EDGE.is("told", x.text(0), 0);
        EDGE.is("goods 1", x.self(0, 0), 1);
        EDGE.is("goods 2", x.self(1, 0), 2);
        EDGE.sentence("Promise 2", "bytes of 0 are left out");
        for (int place = 0; place < 20; place++) {
            int[] numbers = new int[5];
            numbers[place / 4] = 'l' << 24 - place % 4 * 8;
            OtherSelves y = new OtherSelves();
            EDGE.is("l at place " + place, y.feed(numbers[0], numbers[1], numbers[2], numbers[3], numbers[4]), 1);
            EDGE.is("l at place " + place + " is a life", y.text(0), 0);
        }
        EDGE.is("zeros between", new OtherSelves().feed(0x6c000067, 0x00000031, 0, 0x6a000000, 0x00320000), 5);
        EDGE.is("lg1j2", joined(0x6c000067, 0x00000031, 0, 0x6a000000, 0x00320000), 12);
        EDGE.is("nothing at all", new OtherSelves().feed(0, 0, 0, 0, 0), 0);
        EDGE.is("the least and the greatest int", new OtherSelves().feed(LEAST, MOST, -1, 0, 1), 1 + 4 + 4 + 1);
        EDGE.is("bytes of 255, 128", new OtherSelves().feed(-1, 0x80808080, 0x80000080, 0x00800000, 0xff), 4 + 4 + 2 + 1 + 1);
    }

    private static int joined(int a, int b, int c, int d, int e) {
        OtherSelves x = new OtherSelves();
        x.feed(a, b, c, d, e);
        x.text(0);
        return 10 * x.self(0, 0) + x.self(0, 1);
    }

    /** A TAPE of so many bytes. */
    private static OtherSelves taped(int bytes) {
        OtherSelves x = Edge.five();
        x.end(0);
        for (int i = 0; i < bytes; i++) {
            x.feed(i == bytes - 1 ? 'l' : ' ', 0, 0, 0, 0);
        }
        return x;
    }

    private static void feedTooMany() {
        EDGE.sentence("Promise 2", "NONE: more than 240");
        EDGE.is("239 and one", taped(239).feed(0, 0, ' ', 0, 0), 240);
        EDGE.is("220 and twenty", taped(220).feed(-1, -1, -1, -1, -1), 240);
        EDGE.is("240 and none", taped(240).feed(0, 0, 0, 0, 0), 240);
        EDGE.is("236 and four", taped(236).feed(0, MOST, 0, 0, 0), 240);
        for (int i = 0; i < 5; i++) {
            int[] numbers = new int[5];
            numbers[i] = 1;
            EDGE.refused(() -> taped(240), "one too many, number " + i,
                x -> x.feed(numbers[0], numbers[1], numbers[2], numbers[3], numbers[4]), NONE);
            int[] five = {' ', ' ', ' ', ' ', ' '};
            five[i] = 0x20202020;
            EDGE.refused(() -> taped(233), "eight behind 233",
                x -> x.feed(five[0], five[1], five[2], five[3], five[4]), NONE);
        }
        EDGE.refused(() -> taped(221), "twenty behind 221", x -> x.feed(-1, -1, -1, -1, -1), NONE);
        EDGE.refused(() -> taped(239), "two behind 239", x -> x.feed(1, 0, 0, 0, LEAST), NONE);
        OtherSelves x = taped(240);
        EDGE.is("one too many", x.feed(1, 0, 0, 0, 0), NONE);
        EDGE.is("a byte less", x.end(239), true);
        EDGE.is("there is room again", x.feed(1, 0, 0, 0, 0), 240);
    }

    private static void endings() {
        EDGE.sentence("Promise 3", "The TAPE has its first n bytes alone");
        String text = "lg12j34";
        for (int n = 0; n <= text.length(); n++) {
            OtherSelves x = new OtherSelves();
            Due.tape(x, text);
            EDGE.is("end(" + n + ")", x.end(n), true);
            EDGE.is("end(" + n + ") twice", x.end(n), true);
            EDGE.is("bytes", x.count(5), n);
            EDGE.is("end(" + (n + 1) + ") behind it", x.end(n + 1), false);
            EDGE.is("bytes still", x.count(5), n);
            boolean whole = n == 1 || n == 3 || n == 4 || n == 6 || n == 7;
            EDGE.is("fault", x.fault(0), whole ? NONE : n);
        }
        OtherSelves x = new OtherSelves();
        Due.tape(x, text);
        x.end(3);
        x.text(0);
        EDGE.is("the first three alone", x.self(0, 0), 1);
        EDGE.sentence("Promise 3", "False: n");
        for (int n : Edge.outside(0, 5)) {
            EDGE.refused(Edge::five, "end(" + n + ")", y -> y.end(n) ? 1 : 0, 0);
        }
        for (int n : Edge.outside(0, 240)) {
            EDGE.refused(Edge::full, "end(" + n + ")", y -> y.end(n) ? 1 : 0, 0);
        }
        for (int n : new int[] {LEAST, -1, 1, MOST}) {
            EDGE.refused(Edge::empty, "end(" + n + ")", y -> y.end(n) ? 1 : 0, 0);
        }
        EDGE.asked(Edge::empty, "end(0)", y -> y.end(0) ? 1 : 0, 1);
        EDGE.asked(Edge::full, "end(240)", y -> y.end(240) ? 1 : 0, 1);
    }

    private static void faults() {
        EDGE.sentence("Promise 4", "The FAULT of the TAPE as a LIFE (0), a TASTE (1). NONE: none");
        EDGE.asked(Edge::leaf, "fault(0) of lg7", x -> x.fault(0), NONE);
        EDGE.asked(Edge::leaf, "fault(1) of lg7", x -> x.fault(1), 0);
        EDGE.asked(Edge::five, "fault(0) of y:t*2", x -> x.fault(0), 0);
        EDGE.asked(Edge::five, "fault(1) of y:t*2", x -> x.fault(1), NONE);
        EDGE.asked(Edge::full, "fault(0), all full", x -> x.fault(0), NONE);
        EDGE.asked(Edge::full, "fault(1), all full", x -> x.fault(1), 237);
        EDGE.asked(TextEdgeTests::seventhTaste, "fault(1), a seventh taste", x -> x.fault(1), NONE);
        EDGE.asked(Edge::empty, "fault(0) of nothing", x -> x.fault(0), 0);
        EDGE.asked(Edge::empty, "fault(1) of nothing", x -> x.fault(1), 0);
        EDGE.sentence("Promise 4", "-2: no such sort");
        for (int sort : Edge.outside(0, 1)) {
            EDGE.refused(Edge::five, "fault(" + sort + ")", x -> x.fault(sort), -2);
            EDGE.refused(Edge::empty, "fault(" + sort + ")", x -> x.fault(sort), -2);
        }
    }

    private static void texts() {
        EDGE.sentence("Promise 5", "NONE: a FAULT");
        EDGE.refused(Edge::empty, "text(0) of nothing", x -> x.text(0), NONE);
        EDGE.refused(Edge::empty, "text(1) of nothing", x -> x.text(1), NONE);
        EDGE.refused(Edge::five, "text(0) of a taste", x -> x.text(0), NONE);
        EDGE.refused(Edge::leaf, "text(1) of a life", x -> x.text(1), NONE);
        EDGE.refused(() -> taped(240), "text(1) of 240 bytes", x -> x.text(1), NONE);
        EDGE.sentence("Promise 5", "NONE: no such sort");
        for (int sort : Edge.outside(0, 1)) {
            EDGE.refused(Edge::five, "text(" + sort + ")", x -> x.text(sort), NONE);
            EDGE.refused(Edge::leaf, "text(" + sort + ")", x -> x.text(sort), NONE);
            EDGE.refused(Edge::empty, "text(" + sort + ")", x -> x.text(sort), NONE);
        }
        EDGE.sentence("Promise 5", "The TAPE (empty then) is a LIFE more, called to the TABLE");
        OtherSelves x = Edge.five();
        Due.tape(x, "f(:l;:l)");
        EDGE.is("the second life", x.text(0), 1);
        int[] want = {2, 1, 2, 1, 2, 0, 2, 3, NONE, NONE, 1, 0, 0, 0};
        for (int what = 0; what < 14; what++) {
            EDGE.is("count(" + what + ")", x.count(what), want[what]);
        }
        EDGE.is("the image is gone", x.back(), NONE);
        EDGE.is("nothing to undo", x.undo(), NONE);
        EDGE.is("asked twice, the tape is empty", x.text(0), NONE);
        EDGE.sentence("Promise 5", "a TASTE: its number");
        x = Edge.five();
        EDGE.is("the third taste", x.text(1), 2);
        EDGE.is("the tape is empty", x.count(5), 0);
        EDGE.is("the table stays", x.count(13), 3);
        EDGE.is("birthdays stay", x.count(12), 1);
        EDGE.is("asked twice, the tape is empty", x.text(1), NONE);
        EDGE.is("a life of 240 bytes", taped(240).text(0), 1);
    }

    private static void lookedAt() {
        EDGE.sentence("Promise 4", "FAULT: what is only looked at is not told, and leaves nothing to what is told next");
        OtherSelves x = Due.at("l");
        for (String text : new String[] {"f(x9o9g9j9:f(:l;:l);x8:f(:l;x3o3:l))", "fk1y3(x9o9:l;x7o7:f(:l;o1", "f(x1o2:l;o3:l)"}) {
            Due.tape(x, text);
            x.fault(0);
            x.fault(0);
            EDGE.is("one self still, behind " + text, x.count(2), 1);
        }
        EDGE.is("told", x.text(0), 1);
        int[] want = {10, 50, 2, 40, 0, 5, 2, 1, 1};
        int[] other = {10, 50, 3, 40, 0, 5, 0, 1, 1};
        for (int what = 0; what < 9; what++) {
            EDGE.is("self(0, " + what + ")", x.self(0, what), want[what]);
            EDGE.is("self(1, " + what + ")", x.self(1, what), other[what]);
        }
        EDGE.is("selves", x.count(2), 2);
        EDGE.is("forks", x.count(3), 1);
        EDGE.is("year", x.fork(0, 0), 20);
        EDGE.is("selves behind it", x.fork(0, 5), 3);
        for (String text : new String[] {"y:1=1?7;y:8", "y:2=2?[[3", "y:g"}) {
            Due.tape(x, text);
            x.fault(1);
            x.fault(1);
        }
        EDGE.is("told", x.text(1), 0);
        x.set(2, 0);
        EDGE.is("worth", x.worth(0), 10);
        Due.tape(x, "y:j");
        x.fault(1);
        EDGE.is("worth behind a look", x.worth(0), 10);
    }

    private static void calls() {
        EDGE.sentence("What it is", "An object is used for at most 512 calls");
        OtherSelves x = new OtherSelves();
        x.feed('l', 0, 0, 0, 0);
        x.text(0);
        for (int call = 3; call <= 509; call += 3) {
            EDGE.is("call " + call, x.birthday(call), 0);
            EDGE.is("call " + (call + 1), x.count(12), 1);
            EDGE.is("call " + (call + 2), x.take(), 0);
        }
        EDGE.is("call 512", x.count(2), 1);
    }

    public static void main(String[] args) {
        lifeIsOneNode();
        leafAndItems();
        forkAndItems();
        branchAndItems();
        boundsOfNumbers();
        numbersAreTold();
        withoutItems();
        twelveLeaves();
        sixForks();
        threeLives();
        clauses();
        longest();
        conditions();
        sums();
        numbersOfTastes();
        sixWithinOneAnother();
        blanks();
        endsTooEarly();
        newObject();
        feedCounts();
        feedTooMany();
        endings();
        faults();
        texts();
        lookedAt();
        calls();
        EDGE.close("TextEdgeTests");
    }
}
