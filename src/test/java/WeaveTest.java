/** Promise 13 weave. */
public final class WeaveTest {
    private static final Check C = new Check();

    public static void main(String[] args) {
        weaving();
        lengths();
        pickFaults();
        endedByLift();
        endedByYarn();
        endedByLength();
        missingLanes();
        withoutCells();
        tiedAndHung();
        C.close();
    }

    /** Frame 0 with lift, yarn and length ends; yarn i has 50000 + i, even lifts are up. */
    private static HandLoom loom(int lifts, int yarns, int lengths) {
        HandLoom x = new HandLoom();
        x.thread(0, Check.LIFT, lifts);
        x.thread(0, Check.YARN, yarns);
        x.thread(0, Check.LENGTH, lengths);
        for (int i = 0; i < lifts; i += 2) {
            x.act(Check.TURN, 0, Check.LIFT, i, 0);
        }
        for (int i = 0; i < yarns; i++) {
            Check.lay(x, 0, Check.YARN, i, 50000 + i);
        }
        return x;
    }

    private static void weaving() {
        HandLoom x = loom(5, 5, 5);
        x.cloth(2, 5);
        x.ends(1, 0);
        C.due("weave", x.weave(0, 1, -7), 5);
        C.due("no fault", x.told(0), 0);
        for (int e = 0; e < 5; e++) {
            C.due("up shows yarn, down weft", x.cell(1, e), e % 2 == 0 ? 50000 + e : -7);
            C.due("the other pick is as it was", x.cell(0, e), 0);
            C.due("length is one less", Check.look(x, 0, Check.LENGTH, e), -1);
            C.due("yarn stays", Check.look(x, 0, Check.YARN, e), 50000 + e);
            C.due("lift stays", Check.look(x, 0, Check.LIFT, e), e % 2 == 0 ? 1 : 0);
        }
        C.due("one pick to its end", x.told(9), 1);
        C.due("woven anew", x.weave(0, 1, 8), 5);
        C.due("with another weft", x.cell(1, 3), 8);
        C.due("and less length", Check.look(x, 0, Check.LENGTH, 4), -2);
        C.due("two", x.told(9), 2);
        x.cloth(1, 3);
        C.due("more ends than cells", x.weave(0, 0, 1), 3);
        C.due("the ends behind are let alone", Check.look(x, 0, Check.LENGTH, 3), -2);
        C.due("three, of new cloth too", x.told(9), 3);
    }

    private static void lengths() {
        HandLoom x = loom(1, 1, 1);
        x.cloth(1, 1);
        Check.lay(x, 0, Check.LENGTH, 0, -32768);
        C.due("weave", x.weave(0, 0, 1), 1);
        C.due("modulo 65536", Check.look(x, 0, Check.LENGTH, 0), 32767);
    }

    private static void pickFaults() {
        HandLoom x = loom(2, 2, 2);
        int[] noFrame = {-1, 4, Integer.MIN_VALUE, Integer.MAX_VALUE};
        for (int f : noFrame) {
            C.none("no frame", x, 0, 0, x.weave(f, 0, 1));
        }
        C.fault("no cloth", x, 0, x.weave(0, 0, 1), Check.MISSING);
        x.cloth(2, 2);
        C.fault("no pick", x, 0, x.weave(0, 2, 1), Check.OUTSIDE);
        C.fault("no pick below 0", x, 1, x.weave(0, -1, 1), Check.OUTSIDE);
        for (int f : noFrame) {
            C.none("no frame", x, Check.OUTSIDE, 3, x.weave(f, 0, 1));
        }
        x.snip(1);
        C.fault("snipped", x, 1, x.weave(0, 1, 1), Check.MISSING);
        C.fault("OUTSIDE ahead of the frame's own", x, 2, x.weave(3, 2, 1), Check.OUTSIDE);
        C.due("no length was used", Check.look(x, 0, Check.LENGTH, 0), 0);
        C.due("none to its end", x.told(9), 0);
    }

    private static void ended(String what, HandLoom x, int woven, int fault) {
        int before = x.told(fault);
        int total = Check.total(x);
        C.due(what, x.weave(0, 0, -7), woven);
        C.due(what + ": told(0)", x.told(0), fault);
        C.due(what + ": counted", x.told(fault), before + 1);
        C.due(what + ": once", Check.total(x), total + 1);
        C.due(what + ": not to its end", x.told(9), 0);
        for (int e = 0; e < 6; e++) {
            boolean is = x.cell(0, e) != 0;
            C.due(what + ": cell " + e, is, e < woven);
        }
    }

    private static void lengthsUsed(String what, HandLoom x, int ends, int woven) {
        for (int i = 0; i < ends; i++) {
            C.due(what + ": length " + i, Check.look(x, 0, Check.LENGTH, i), i < woven ? -1 : 0);
        }
    }

    private static void endedByLift() {
        HandLoom x = loom(4, 6, 6);
        x.cloth(1, 6);
        ended("no lift 4", x, 4, Check.OUTSIDE);
        lengthsUsed("no lift 4", x, 6, 4);
        HandLoom y = loom(0, 6, 6);
        y.cloth(1, 6);
        ended("no lift at all", y, 0, Check.OUTSIDE);
        lengthsUsed("no lift at all", y, 6, 0);
    }

    private static void endedByYarn() {
        HandLoom x = loom(6, 3, 6);
        x.cloth(1, 6);
        ended("yarn 3 is not asked for, 4 is", x, 4, Check.OUTSIDE);
        lengthsUsed("no yarn 4", x, 6, 4);
        HandLoom y = loom(6, 6, 6);
        y.act(Check.TURN, 0, Check.LIFT, 0, 0);
        y.cut(0, Check.YARN);
        y.cloth(1, 6);
        ended("yarn is not threaded", y, 2, Check.MISSING);
        lengthsUsed("yarn is not threaded", y, 6, 2);
        HandLoom z = loom(6, 3, 6);
        z.act(Check.TURN, 0, Check.LIFT, 4, 0);
        z.cloth(1, 6);
        C.due("yarn is not asked for where the lift is down", z.weave(0, 0, 3), 6);
    }

    private static void endedByLength() {
        HandLoom x = loom(6, 6, 5);
        x.cloth(1, 6);
        ended("no length 5", x, 5, Check.OUTSIDE);
        lengthsUsed("no length 5", x, 5, 5);
        HandLoom y = loom(6, 6, 6);
        y.cut(0, Check.LENGTH);
        y.cloth(1, 6);
        ended("length is not threaded", y, 0, Check.MISSING);
    }

    /** Which lane is asked first shows where one is missing and another one is too short. */
    private static void missingLanes() {
        HandLoom x = loom(0, 0, 0);
        x.cut(0, Check.LIFT);
        x.cloth(1, 6);
        ended("lift ahead of yarn and length", x, 0, Check.MISSING);
        HandLoom y = loom(1, 0, 1);
        y.cut(0, Check.LENGTH);
        y.cloth(1, 6);
        ended("yarn ahead of length", y, 0, Check.OUTSIDE);
        HandLoom z = loom(0, 0, 0);
        z.cut(0, Check.YARN);
        z.cut(0, Check.LENGTH);
        z.cloth(1, 6);
        ended("lift OUTSIDE ahead of the others", z, 0, Check.OUTSIDE);
        HandLoom w = loom(1, 1, 0);
        w.cut(0, Check.YARN);
        w.cloth(1, 6);
        ended("yarn MISSING ahead of length", w, 0, Check.MISSING);
    }

    private static void withoutCells() {
        HandLoom x = new HandLoom();
        x.cloth(2, 0);
        C.due("nothing to weave", x.weave(2, 1, 5), 0);
        C.due("no lane is looked at", x.told(0), 0);
        C.due("it is woven to its end", x.told(9), 1);
        C.due("no faults", Check.total(x), 0);
    }

    private static void tiedAndHung() {
        HandLoom x = loom(3, 3, 3);
        x.tie(1, Check.LIFT, 0);
        x.tie(1, Check.LENGTH, 0);
        x.thread(1, Check.YARN, 3);
        Check.lay(x, 1, Check.YARN, 0, 77);
        x.cloth(2, 3);
        x.hang(0, 1);
        C.due("weave with frame 1", x.weave(1, 0, 5), 3);
        C.due("its own yarn", x.cell(1, 0), 77);
        C.due("weft", x.cell(1, 1), 5);
        C.due("the tied length", Check.look(x, 0, Check.LENGTH, 2), -1);
        C.due("weave with frame 0", x.weave(0, 1, 6), 3);
        C.due("the hung pick", x.cell(0, 0), 50000);
        C.due("the same length", Check.look(x, 1, Check.LENGTH, 2), -2);
    }
}
