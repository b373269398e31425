/** Counts answers, and prints each that is not the one that is due. */
final class Due {
    private int right;
    private int wrong;

    void due(String call, long got, long want) {
        if (got == want) {
            right++;
            return;
        }
        wrong++;
        if (wrong <= 100) {
            System.out.println(call + " answered " + got + ", due is " + want);
        }
    }

    void due(String call, boolean got, boolean want) {
        due(call, got ? 1 : 0, want ? 1 : 0);
    }

    boolean isAllRight() {
        return wrong == 0;
    }

    void close(String name) {
        System.out.println(name + ": " + right + " passed, " + wrong + " failed");
        if (wrong > 0 || right == 0) {
            System.exit(1);
        }
    }

    /** Brings a text to the TAPE, which is emptied first, twenty bytes a call. */
    static int tape(OtherSelves x, String text) {
        x.end(0);
        int answer = 0;
        for (int i = 0; i < text.length(); i += 20) {
            answer = x.feed(four(text, i), four(text, i + 4), four(text, i + 8), four(text, i + 12), four(text, i + 16));
        }
        return answer;
    }

    static int four(String text, int from) {
        int number = 0;
        for (int i = from; i < from + 4; i++) {
            number = number << 8 | (i < text.length() ? text.charAt(i) & 255 : 0);
        }
        return number;
    }

    static int fault(String text, int sort) {
        OtherSelves x = new OtherSelves();
        tape(x, text);
        return x.fault(sort);
    }

    static int life(OtherSelves x, String text) {
        tape(x, text);
        return x.text(0);
    }

    static int taste(OtherSelves x, String text) {
        tape(x, text);
        return x.text(1);
    }

    /** An object with one LIFE at the TABLE and TASTES. */
    static OtherSelves at(String life, String... tastes) {
        OtherSelves x = new OtherSelves();
        life(x, life);
        for (String taste : tastes) {
            taste(x, taste);
        }
        return x;
    }
}
