import java.util.List;

/** Compares answers with those that are due; close() ends the program with exit code 1 if one was wrong. */
final class Check {
    static final int NONE = -2147483648;

    static final int YARN = 0;
    static final int LENGTH = 1;
    static final int TENSION = 2;
    static final int LIFT = 3;
    static final int DYE = 4;

    static final int LOOK = 0;
    static final int LAY = 1;
    static final int PULL = 2;
    static final int TURN = 3;
    static final int PART = 4;

    static final int MISSING = 1;
    static final int OUTSIDE = 2;
    static final int SIZE = 3;
    static final int EMPTY = 4;
    static final int ZERO = 5;

    private int asked = 0;
    private int wrong = 0;
    private String sentence = "";

    /** Answers that are wrong from now on are told with the promise, and the words of it, that they break. */
    void sentence(String promise, String words) {
        sentence = "[" + promise + ": '" + words + "'] ";
    }

    void due(String what, long got, long want) {
        asked++;
        if (got != want) {
            wrong++;
            System.out.println(sentence + what + " answered " + got + ", due is " + want);
        }
    }

    /** Compares whole transcripts; only the first place where they differ is told. */
    void same(String what, List<String> got, List<String> want) {
        int at = 0;
        while (at < got.size() && at < want.size() && got.get(at).equals(want.get(at))) {
            at++;
        }
        asked++;
        if (at < got.size() || at < want.size()) {
            wrong++;
            System.out.println(sentence + what + ": then " + (at < got.size() ? got.get(at) : "nothing") + ", due is "
                + (at < want.size() ? want.get(at) : "nothing"));
        }
    }

    void due(String what, boolean got, boolean want) {
        due(what, got ? 1 : 0, want ? 1 : 0);
    }

    /** A call that must have a fault: it answers 0, tells that fault, and it is counted once. */
    void fault(String what, HandLoom x, int before, int got, int fault) {
        due(what, got, 0);
        due(what + ": told(0)", x.told(0), fault);
        due(what + ": count", x.told(fault), before + 1);
    }

    /** A call that must answer NONE: no fault is told or counted. */
    void none(String what, HandLoom x, int faultBefore, int totalBefore, int got) {
        due(what, got, NONE);
        due(what + ": told(0) stays", x.told(0), faultBefore);
        due(what + ": no fault is counted", total(x), totalBefore);
    }

    static int total(HandLoom x) {
        int sum = 0;
        for (int k = 1; k <= 5; k++) {
            sum += x.told(k);
        }
        return sum;
    }

    /** Winds v and lays it at an end that is there. */
    static int lay(HandLoom x, int frame, int lane, int i, int v) {
        x.spool(v);
        return x.act(LAY, frame, lane, i, 0);
    }

    /** Winds v and pulls with it at an end that is there. */
    static int pull(HandLoom x, int frame, int lane, int i, int v) {
        x.spool(v);
        return x.act(PULL, frame, lane, i, 0);
    }

    static int look(HandLoom x, int frame, int lane, int i) {
        return x.act(LOOK, frame, lane, i, 0);
    }

    /** Hooks a card that has the fault, where YARN of frame 0 has one end and 1 none; no card can have SIZE. */
    static void hookFault(HandLoom x, int fault) {
        x.card(fault == EMPTY ? PULL : PART, fault == MISSING ? 1 : 0, YARN, fault == OUTSIDE ? 1 : 0, 0);
    }

    void close() {
        System.out.println(asked + " answers, " + wrong + " wrong");
        if (wrong != 0) {
            System.exit(1);
        }
    }
}
