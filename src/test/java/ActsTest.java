/** Promises 6 spool and 7 act, with the terms of each sort of lane. */
public final class ActsTest {
    private static final Check C = new Check();

    public static void main(String[] args) {
        spooling();
        noSuchAct();
        for (int lane = 0; lane < 5; lane++) {
            faults(lane);
            vCountsForPartAlone(lane);
        }
        wholeLane(Check.YARN, 0, 65535);
        wholeLane(Check.LENGTH, -32768, 32767);
        wholeLane(Check.DYE, -128, 127);
        yarnParts();
        lift();
        tension();
        tensionIsHeld();
        tensionIsOfSinglePrecision();
        C.close();
    }

    private static void spooling() {
        HandLoom x = new HandLoom();
        x.ends(0, 0);
        for (int k = 1; k <= 16; k++) {
            C.due("spool", x.spool(k * 10), k);
        }
        C.none("the spool is full", x, Check.MISSING, 1, x.spool(999));
        C.due("16 threads", x.told(6), 16);
        x.thread(0, Check.YARN, 1);
        for (int k = 1; k <= 40; k++) {
            C.due("drawn in order", x.act(Check.LAY, 0, Check.YARN, 0, 0), k * 10);
            C.due("one less", x.told(6), 15);
            C.due("a new one comes behind", x.spool((k + 16) * 10), 16);
        }
        for (int k = 41; k <= 56; k++) {
            C.due("the rest, in order", x.act(Check.LAY, 0, Check.YARN, 0, 0), k * 10);
        }
        C.fault("no more", x, 0, x.act(Check.LAY, 0, Check.YARN, 0, 0), Check.EMPTY);
        C.due("any int is a thread", x.spool(Integer.MIN_VALUE), 1);
        C.due("spool() is not told of", x.told(0), Check.EMPTY);
    }

    private static void noSuchAct() {
        HandLoom x = new HandLoom();
        for (int lane = 0; lane < 5; lane++) {
            x.thread(0, lane, 2);
        }
        x.spool(5);
        x.ends(1, 0);
        int[] bad = {-1, 5, 6, Integer.MIN_VALUE, Integer.MAX_VALUE};
        for (int b : bad) {
            C.none("no such kind", x, Check.MISSING, 1, x.act(b, 0, 0, 0, 1));
            for (int kind = 0; kind < 5; kind++) {
                C.none("no such lane", x, Check.MISSING, 1, x.act(kind, 0, b, 0, 1));
                C.none("no such frame", x, Check.MISSING, 1, x.act(kind, b == 5 ? 4 : b, 0, 0, 1));
            }
        }
        C.due("no thread was drawn", x.told(6), 1);
        C.due("nothing was changed", Check.look(x, 0, 0, 0), 0);
    }

    private static void faults(int lane) {
        HandLoom x = new HandLoom();
        C.fault("LOOK: MISSING", x, 0, x.act(Check.LOOK, 2, lane, -1, 0), Check.MISSING);
        C.fault("TURN: MISSING", x, 1, x.act(Check.TURN, 2, lane, -1, 0), Check.MISSING);
        C.fault("PART: MISSING ahead of ZERO", x, 2, x.act(Check.PART, 2, lane, -1, 0), Check.MISSING);
        C.fault("PULL: MISSING ahead of EMPTY", x, 3, x.act(Check.PULL, 2, lane, -1, 0), Check.MISSING);
        C.fault("LAY: EMPTY ahead of MISSING", x, 0, x.act(Check.LAY, 2, lane, -1, 0), Check.EMPTY);
        x.spool(1);
        C.fault("PULL: MISSING", x, 4, x.act(Check.PULL, 2, lane, 0, 0), Check.MISSING);
        C.due("the thread stays", x.told(6), 1);
        C.fault("LAY: MISSING ahead of OUTSIDE", x, 5, x.act(Check.LAY, 2, lane, -1, 0), Check.MISSING);
        C.due("the thread is gone", x.told(6), 0);
        x.thread(2, lane, 2);
        C.due("no fault", x.told(0), 0);
        C.fault("LAY: EMPTY ahead of OUTSIDE", x, 1, x.act(Check.LAY, 2, lane, 2, 0), Check.EMPTY);
        C.fault("PULL: OUTSIDE ahead of EMPTY", x, 0, x.act(Check.PULL, 2, lane, 2, 0), Check.OUTSIDE);
        C.fault("PART: OUTSIDE ahead of ZERO", x, 1, x.act(Check.PART, 2, lane, 2, 0), Check.OUTSIDE);
        C.fault("LOOK: OUTSIDE", x, 2, x.act(Check.LOOK, 2, lane, -1, 0), Check.OUTSIDE);
        C.fault("TURN: OUTSIDE", x, 3, x.act(Check.TURN, 2, lane, 24, 0), Check.OUTSIDE);
        x.spool(1);
        C.fault("PULL: OUTSIDE", x, 4, x.act(Check.PULL, 2, lane, 2, 0), Check.OUTSIDE);
        C.due("the thread stays", x.told(6), 1);
        C.fault("LAY: OUTSIDE", x, 5, x.act(Check.LAY, 2, lane, 2, 0), Check.OUTSIDE);
        C.due("the thread is gone", x.told(6), 0);
        C.due("turn", x.act(Check.TURN, 2, lane, 1, 0), lane == Check.TENSION ? 8 : 1);
        C.fault("PULL: EMPTY", x, 2, x.act(Check.PULL, 2, lane, 1, 0), Check.EMPTY);
        C.due("unchanged", Check.look(x, 2, lane, 1), lane == Check.TENSION ? 8 : 1);
        if (lane != Check.LIFT) {
            C.fault("PART: ZERO", x, 0, x.act(Check.PART, 2, lane, 1, 0), Check.ZERO);
            C.due("unchanged", Check.look(x, 2, lane, 1), lane == Check.TENSION ? 8 : 1);
        }
        C.due("the other end was let alone", Check.look(x, 2, lane, 0), 0);
    }

    private static void vCountsForPartAlone(int lane) {
        HandLoom x = new HandLoom();
        x.thread(0, lane, 1);
        x.spool(3);
        x.spool(2);
        int laid = lane == Check.LIFT ? 1 : 3;
        C.due("LAY", x.act(Check.LAY, 0, lane, 0, 8), laid);
        C.due("LOOK", x.act(Check.LOOK, 0, lane, 0, 8), laid);
        int pulled = lane == Check.LIFT ? 1 : 5;
        C.due("PULL", x.act(Check.PULL, 0, lane, 0, 9), pulled);
        int turned = lane == Check.LIFT ? 0 : lane == Check.TENSION ? 13 : 6;
        C.due("TURN", x.act(Check.TURN, 0, lane, 0, 8), turned);
    }

    /** The sorts whose ends have whole numbers from low to high. */
    private static void wholeLane(int lane, int low, int high) {
        HandLoom x = new HandLoom();
        x.thread(1, lane, 24);
        int span = high - low + 1;
        C.due("LAY low", Check.lay(x, 1, lane, 23, low), low);
        C.due("LAY high", Check.lay(x, 1, lane, 23, high), high);
        C.due("LAY above", Check.lay(x, 1, lane, 23, high + 1), low);
        C.due("LAY below", Check.lay(x, 1, lane, 23, low - 1), high);
        C.due("LAY far above", Check.lay(x, 1, lane, 23, Integer.MAX_VALUE), Math.floorMod(-1 - low, span) + low);
        C.due("LAY far below", Check.lay(x, 1, lane, 23, Integer.MIN_VALUE), 0);
        C.due("LAY", Check.lay(x, 1, lane, 23, 3 * span + 7), 7);
        C.due("PULL", Check.pull(x, 1, lane, 23, -3), 4);
        C.due("PULL by a span", Check.pull(x, 1, lane, 23, -5 * span), 4);
        C.due("PULL far", Check.pull(x, 1, lane, 23, Integer.MAX_VALUE), 3);
        C.due("PULL far below", Check.pull(x, 1, lane, 23, Integer.MIN_VALUE), 3);
        Check.lay(x, 1, lane, 23, high);
        C.due("PULL over the top", Check.pull(x, 1, lane, 23, 2), low + 1);
        C.due("PULL over the bottom", Check.pull(x, 1, lane, 23, -2), high);
        C.due("TURN over the top", x.act(Check.TURN, 1, lane, 23, 0), low);
        C.due("TURN", x.act(Check.TURN, 1, lane, 23, 0), low + 1);
        Check.lay(x, 1, lane, 23, 17);
        C.due("PART", x.act(Check.PART, 1, lane, 23, 5), 3);
        C.due("PART by -1", x.act(Check.PART, 1, lane, 23, -1), low < 0 ? -3 : 65533);
        Check.lay(x, 1, lane, 23, 17);
        C.due("PART by -5, cut towards 0", x.act(Check.PART, 1, lane, 23, -5), low < 0 ? -3 : 65533);
        Check.lay(x, 1, lane, 23, low);
        C.due("PART the lowest by -1", x.act(Check.PART, 1, lane, 23, -1), low);
        Check.lay(x, 1, lane, 23, high);
        C.due("PART by the least", x.act(Check.PART, 1, lane, 23, Integer.MIN_VALUE), 0);
        C.due("PART 0", x.act(Check.PART, 1, lane, 23, 9), 0);
        if (low < 0) {
            Check.lay(x, 1, lane, 23, -17);
            C.due("PART a negative one, cut towards 0", x.act(Check.PART, 1, lane, 23, 5), -3);
            C.due("by a negative one", x.act(Check.PART, 1, lane, 23, -2), 1);
        }
        C.due("no faults", Check.total(x), 0);
        for (int i = 0; i < 23; i++) {
            C.due("the other ends", Check.look(x, 1, lane, i), 0);
        }
    }

    private static void yarnParts() {
        HandLoom x = new HandLoom();
        x.thread(0, Check.YARN, 1);
        Check.lay(x, 0, Check.YARN, 0, -1);
        C.due("yarn has no sign", x.act(Check.PART, 0, Check.YARN, 0, 2), 32767);
        Check.lay(x, 0, Check.YARN, 0, 65535);
        C.due("by -65535", x.act(Check.PART, 0, Check.YARN, 0, -65535), 65535);
        C.due("by 65536", x.act(Check.PART, 0, Check.YARN, 0, 65536), 0);
    }

    private static void lift() {
        int[] odd = {1, -1, 3, -3, Integer.MAX_VALUE, 70001};
        int[] even = {0, 2, -2, Integer.MIN_VALUE, 65536};
        for (int o : odd) {
            HandLoom x = new HandLoom();
            x.thread(0, Check.LIFT, 2);
            for (int e : even) {
                C.due("LAY odd", Check.lay(x, 0, Check.LIFT, 0, o), 1);
                C.due("PULL even", Check.pull(x, 0, Check.LIFT, 0, e), 1);
                C.due("PULL odd", Check.pull(x, 0, Check.LIFT, 0, o), 0);
                C.due("PULL odd again", Check.pull(x, 0, Check.LIFT, 0, o), 1);
                C.due("PART odd", x.act(Check.PART, 0, Check.LIFT, 0, o), 1);
                C.due("PART even", x.act(Check.PART, 0, Check.LIFT, 0, e), 0);
                C.due("PART even, down", x.act(Check.PART, 0, Check.LIFT, 0, e), 0);
                C.due("PART odd, down", x.act(Check.PART, 0, Check.LIFT, 0, o), 0);
                C.due("TURN", x.act(Check.TURN, 0, Check.LIFT, 0, 0), 1);
                C.due("LAY even", Check.lay(x, 0, Check.LIFT, 0, e), 0);
                C.due("PULL even, down", Check.pull(x, 0, Check.LIFT, 0, e), 0);
            }
            C.due("no ZERO", Check.total(x), 0);
            C.due("the other end", Check.look(x, 0, Check.LIFT, 1), 0);
        }
    }

    private static void tension() {
        HandLoom x = new HandLoom();
        x.thread(0, Check.TENSION, 2);
        C.due("LAY", Check.lay(x, 0, Check.TENSION, 0, 13), 13);
        C.due("PULL", Check.pull(x, 0, Check.TENSION, 0, -20), -7);
        C.due("TURN", x.act(Check.TURN, 0, Check.TENSION, 0, 0), 1);
        C.due("PART", x.act(Check.PART, 0, Check.TENSION, 0, 2), 0);
        C.due("half an eighth is kept", Check.pull(x, 0, Check.TENSION, 0, 1), 1);
        C.due("and goes towards 0", Check.pull(x, 0, Check.TENSION, 0, -3), -1);
        C.due("PART by -1", x.act(Check.PART, 0, Check.TENSION, 0, -1), 1);
        Check.lay(x, 0, Check.TENSION, 0, 0);
        C.due("0 by a negative one", x.act(Check.PART, 0, Check.TENSION, 0, -7), 0);
        C.due("and on", Check.pull(x, 0, Check.TENSION, 0, 0), 0);
        C.due("the other end", Check.look(x, 0, Check.TENSION, 1), 0);
        C.due("no faults", Check.total(x), 0);
    }

    private static void tensionIsHeld() {
        HandLoom x = new HandLoom();
        x.thread(0, Check.TENSION, 1);
        C.due("LAY at the top", Check.lay(x, 0, Check.TENSION, 0, 32768), 32768);
        C.due("LAY below the top", Check.lay(x, 0, Check.TENSION, 0, 32767), 32767);
        C.due("LAY above", Check.lay(x, 0, Check.TENSION, 0, 32769), 32768);
        C.due("LAY the most", Check.lay(x, 0, Check.TENSION, 0, Integer.MAX_VALUE), 32768);
        C.due("LAY at the bottom", Check.lay(x, 0, Check.TENSION, 0, -32768), -32768);
        C.due("LAY above the bottom", Check.lay(x, 0, Check.TENSION, 0, -32767), -32767);
        C.due("LAY below", Check.lay(x, 0, Check.TENSION, 0, -32769), -32768);
        C.due("LAY the least", Check.lay(x, 0, Check.TENSION, 0, Integer.MIN_VALUE), -32768);
        C.due("TURN", x.act(Check.TURN, 0, Check.TENSION, 0, 0), -32760);
        C.due("PULL below", Check.pull(x, 0, Check.TENSION, 0, -9), -32768);
        C.due("what was cut off is gone", Check.pull(x, 0, Check.TENSION, 0, 9), -32759);
        C.due("v itself is not held", Check.pull(x, 0, Check.TENSION, 0, 65000), 32241);
        C.due("PULL above", Check.pull(x, 0, Check.TENSION, 0, 65000), 32768);
        C.due("TURN at the top", x.act(Check.TURN, 0, Check.TENSION, 0, 0), 32768);
        C.due("PULL the least", Check.pull(x, 0, Check.TENSION, 0, Integer.MIN_VALUE), -32768);
        C.due("PULL the most", Check.pull(x, 0, Check.TENSION, 0, Integer.MAX_VALUE), 32768);
    }

    private static void tensionIsOfSinglePrecision() {
        HandLoom x = new HandLoom();
        x.thread(0, Check.TENSION, 2);
        C.due("an eighth of a millionth", smallThenPulled(x, -1, 1000000, 32000), 32000);
        C.due("is lost with a large one only", smallThenPulled(x, -1, 1000000, 8), 7);
        C.due("of two the even one", smallThenPulled(x, -1, 1024, 16448), 16448);
        C.due("a little more is nearer to the next", smallThenPulled(x, -1, 1023, 16448), 16447);
        C.due("a little less to the first", smallThenPulled(x, -1, 1025, 16448), 16448);
        C.due("the quotient is to the nearest", smallThenPulled(x, -16384, 16777215, 16448), 16447);
        C.due("v to single precision", smallThenPulled(x, -32768, 33554431, 16448), 16448);
        C.due("v: of two the even one", smallThenPulled(x, -20000, 1024 * 20000 - 1, 16448), 16448);
        C.due("v: the nearest", smallThenPulled(x, -20000, 2048 * 20000 - 3, 8256), 8255);
        C.due("TURN to the nearest", smallThenTurned(x), 16392);
    }

    private static int smallThenPulled(HandLoom x, int v, int by, int w) {
        Check.lay(x, 0, Check.TENSION, 0, v);
        x.act(Check.PART, 0, Check.TENSION, 0, by);
        return Check.pull(x, 0, Check.TENSION, 0, w);
    }

    /** Below 2048 the sums are exact; the last turn goes over it, half way between two numbers. */
    private static int smallThenTurned(HandLoom x) {
        C.due("just below 2047", smallThenPulled(x, -1, 1024, 16376), 16375);
        C.due("just below 2048", x.act(Check.TURN, 0, Check.TENSION, 0, 0), 16383);
        return x.act(Check.TURN, 0, Check.TENSION, 0, 0);
    }
}
