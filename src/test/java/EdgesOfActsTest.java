/** The boundary cases of the acts at an end ('Terms') and of promises 6 and 7: spool and act. */
public final class EdgesOfActsTest {
    private static final Check C = new Check();
    private static final int MIN = Integer.MIN_VALUE;
    private static final int MAX = Integer.MAX_VALUE;
    private static final int[] NO_END = {-1, 2, 24, MIN, MAX};
    private static final int[] ODD = {1, -1, 3, -3, 32769, MAX, MIN + 1};
    private static final int[] EVEN = {0, 2, -2, 65536, MIN, MAX - 1};

    public static void main(String[] args) {
        faultsByTheirNumbers();
        fullSpool();
        for (int lane = 0; lane < 5; lane++) {
            kindsAreNoughtToFour(lane);
            vCountsForPartAlone(lane);
            lookFaults(lane);
            layFaults(lane);
            layLosesOneThread(lane);
            pullFaults(lane);
            turnFaults(lane);
            partFaults(lane);
            severalFaults(lane);
            eachAnswersWhatTheEndTells(lane);
        }
        layOfLift();
        layOfTension();
        pullOfLift();
        pullOfTension();
        turnOfTension();
        partIsCutTowardsNought();
        partOfTension();
        partOfLift();
        C.close();
    }

    private static HandLoom loom(int lane) {
        HandLoom x = new HandLoom();
        x.thread(0, lane, 2);
        return x;
    }

    private static void faultsByTheirNumbers() {
        C.sentence("Terms", "FAULTS: 1 MISSING; 2 OUTSIDE; 3 SIZE; 4 EMPTY; 5 ZERO");
        HandLoom x = loom(Check.YARN);
        C.fault("the lane is not threaded", x, 0, x.ends(1, Check.YARN), 1);
        C.fault("there is no cloth", x, 1, x.cell(0, 0), 1);
        C.fault("no such end", x, 0, Check.look(x, 0, Check.YARN, 2), 2);
        C.fault("a number of ends below 0", x, 0, x.thread(0, Check.YARN, -1), 3);
        C.fault("a number of picks below 0", x, 1, x.cloth(-1, 1), 3);
        x.cloth(1, 1);
        C.fault("no such pick ever", x, 1, x.cell(1, 0), 2);
        x.snip(0);
        C.fault("no such pick any more", x, 2, x.cell(0, 0), 1);
        C.fault("to draw when there is no thread", x, 0, x.act(Check.LAY, 0, Check.YARN, 0, 0), 4);
        C.fault("to part by 0", x, 0, x.act(Check.PART, 0, Check.YARN, 0, 0), 5);
    }

    /** Each call could have all faults that it knows at once: only the first one is told, and it is counted alone. */
    private static void severalFaults(int lane) {
        C.sentence("Terms", "Where several could be, they are told in their order");
        HandLoom x = loom(lane);
        int[] kinds = {Check.LOOK, Check.LAY, Check.PULL, Check.TURN, Check.PART};
        for (int k = 0; k < kinds.length; k++) {
            x.act(kinds[k], 1, lane, -1, 0);
            C.due("kind " + kinds[k], x.told(0), kinds[k] == Check.LAY ? Check.EMPTY : Check.MISSING);
            C.due("alone", Check.total(x), 2 * k + 1);
            x.act(kinds[k], 0, lane, 2, 0);
            C.due("kind " + kinds[k], x.told(0), kinds[k] == Check.LAY ? Check.EMPTY : Check.OUTSIDE);
            C.due("alone", Check.total(x), 2 * k + 2);
        }
        x.swap(1, lane, -1, -1);
        C.due("swap", x.told(0), Check.MISSING);
        x.hang(-1, -1);
        C.due("hang", x.told(0), Check.MISSING);
        x.cell(-1, -1);
        C.due("cell", x.told(0), Check.MISSING);
        x.weave(3, -1, 0);
        C.due("weave", x.told(0), Check.MISSING);
        x.cloth(-1, -1);
        C.due("cloth", x.told(0), Check.SIZE);
        C.due("each alone", Check.total(x), 15);
    }

    private static void fullSpool() {
        C.sentence("6 spool", "how many there are; NONE if there are 16");
        HandLoom x = new HandLoom();
        x.thread(0, Check.YARN, 1);
        for (int k = 1; k <= 16; k++) {
            C.due("spool", x.spool(k), k);
        }
        C.due("full", x.spool(17), Check.NONE);
        C.due("full, whatever comes", x.spool(MIN), Check.NONE);
        C.due("there are 16", x.told(6), 16);
        C.due("the first one", x.act(Check.LAY, 0, Check.YARN, 0, 0), 1);
        C.due("room for one", x.spool(18), 16);
        C.due("and no more", x.spool(19), Check.NONE);
        for (int k = 2; k <= 16; k++) {
            C.due("in order", x.act(Check.LAY, 0, Check.YARN, 0, 0), k);
        }
        C.due("behind those on the spool", x.act(Check.LAY, 0, Check.YARN, 0, 0), 18);
        C.due("none is left", x.told(6), 0);
        C.due("the first one again", x.spool(20), 1);
    }

    private static void kindsAreNoughtToFour(int lane) {
        C.sentence("7 act", "An ACT of kind 0 .. 4 at END i of a LANE");
        int[] none = {-1, 5, MIN, MAX};
        HandLoom x = loom(lane);
        x.spool(3);
        for (int kind : none) {
            C.due("kind " + kind, x.act(kind, 0, lane, 0, 2), Check.NONE);
        }
        C.due("nothing was drawn", x.told(6), 1);
        C.due("nothing was changed", Check.look(x, 0, lane, 0), 0);
        for (int kind = 0; kind <= 4; kind++) {
            x.spool(1);
            C.due("kind " + kind, x.act(kind, 0, lane, 0, 1) != Check.NONE, true);
            C.due("no fault", x.told(0), 0);
        }
    }

    private static void vCountsForPartAlone(int lane) {
        C.sentence("7 act", "v counts for PART alone");
        int[] any = {0, 1, -1, 5, MIN, MAX};
        for (int v : any) {
            HandLoom x = loom(lane);
            x.spool(3);
            x.spool(2);
            C.due("LOOK", x.act(Check.LOOK, 0, lane, 0, v), 0);
            C.due("LAY", x.act(Check.LAY, 0, lane, 0, v), lane == Check.LIFT ? 1 : 3);
            C.due("PULL", x.act(Check.PULL, 0, lane, 0, v), lane == Check.LIFT ? 1 : 5);
            C.due("TURN", x.act(Check.TURN, 0, lane, 0, v), lane == Check.LIFT ? 0 : lane == Check.TENSION ? 13 : 6);
            C.due("no fault", Check.total(x), 0);
        }
    }

    private static void lookFaults(int lane) {
        C.sentence("Terms", "MISSING: the LANE is not THREADED; OUTSIDE: no such END (0 LOOK)");
        HandLoom x = loom(lane);
        C.fault("not threaded", x, 0, x.act(Check.LOOK, 1, lane, 0, 0), Check.MISSING);
        for (int k = 0; k < NO_END.length; k++) {
            C.fault("no end", x, k, x.act(Check.LOOK, 0, lane, NO_END[k], 0), Check.OUTSIDE);
            C.fault("MISSING ahead of OUTSIDE", x, k + 1, x.act(Check.LOOK, 1, lane, NO_END[k], 0), Check.MISSING);
        }
    }

    private static void layFaults(int lane) {
        C.sentence("Terms", "1 LAY (faults EMPTY, MISSING, OUTSIDE)");
        HandLoom x = loom(lane);
        C.fault("EMPTY", x, 0, x.act(Check.LAY, 0, lane, 0, 1), Check.EMPTY);
        C.fault("EMPTY ahead of MISSING", x, 1, x.act(Check.LAY, 1, lane, 0, 1), Check.EMPTY);
        C.fault("EMPTY ahead of MISSING and OUTSIDE", x, 2, x.act(Check.LAY, 1, lane, -1, 1), Check.EMPTY);
        for (int k = 0; k < NO_END.length; k++) {
            C.fault("EMPTY ahead of OUTSIDE", x, k + 3, x.act(Check.LAY, 0, lane, NO_END[k], 1), Check.EMPTY);
        }
        for (int k = 0; k < NO_END.length; k++) {
            x.spool(1);
            C.fault("MISSING ahead of OUTSIDE", x, k, x.act(Check.LAY, 1, lane, NO_END[k], 1), Check.MISSING);
            x.spool(1);
            C.fault("OUTSIDE", x, k, x.act(Check.LAY, 0, lane, NO_END[k], 1), Check.OUTSIDE);
        }
        C.due("nothing was laid", Check.look(x, 0, lane, 0) + Check.look(x, 0, lane, 1), 0);
    }

    private static void layLosesOneThread(int lane) {
        C.sentence("Terms", "with MISSING and OUTSIDE the THREAD is gone");
        HandLoom x = loom(lane);
        for (int k = 1; k <= 5; k++) {
            x.spool(2 * k + 1);
        }
        x.act(Check.LAY, 1, lane, 0, 0);
        C.due("gone with MISSING", x.told(6), 4);
        x.act(Check.LAY, 0, lane, 2, 0);
        C.due("gone with OUTSIDE", x.told(6), 3);
        x.act(Check.LAY, 0, lane, -1, 0);
        C.due("gone with OUTSIDE below 0", x.told(6), 2);
        C.due("the fourth one is laid", x.act(Check.LAY, 0, lane, 0, 0), lane == Check.LIFT ? 1 : 9);
        C.due("and gone, too", x.told(6), 1);
    }

    private static void pullFaults(int lane) {
        C.sentence("Terms", "2 PULL (MISSING, OUTSIDE, EMPTY)");
        HandLoom x = loom(lane);
        C.fault("EMPTY", x, 0, x.act(Check.PULL, 0, lane, 1, 1), Check.EMPTY);
        C.fault("MISSING ahead of EMPTY", x, 0, x.act(Check.PULL, 1, lane, 0, 1), Check.MISSING);
        for (int k = 0; k < NO_END.length; k++) {
            C.fault("OUTSIDE ahead of EMPTY", x, k, x.act(Check.PULL, 0, lane, NO_END[k], 1), Check.OUTSIDE);
            C.fault("MISSING ahead of all", x, k + 1, x.act(Check.PULL, 1, lane, NO_END[k], 1), Check.MISSING);
        }
        x.spool(7);
        C.fault("MISSING", x, 1 + NO_END.length, x.act(Check.PULL, 1, lane, 0, 1), Check.MISSING);
        C.due("the thread stays", x.told(6), 1);
        C.fault("OUTSIDE", x, NO_END.length, x.act(Check.PULL, 0, lane, 2, 1), Check.OUTSIDE);
        C.due("the thread stays", x.told(6), 1);
        C.due("and can be pulled", x.act(Check.PULL, 0, lane, 1, 1), lane == Check.LIFT ? 1 : 7);
        C.due("it is drawn", x.told(6), 0);
    }

    private static void turnFaults(int lane) {
        C.sentence("Terms", "3 TURN (MISSING, OUTSIDE)");
        HandLoom x = loom(lane);
        for (int k = 0; k < NO_END.length; k++) {
            C.fault("MISSING", x, k, x.act(Check.TURN, 1, lane, NO_END[k], 0), Check.MISSING);
            C.fault("OUTSIDE", x, k, x.act(Check.TURN, 0, lane, NO_END[k], 0), Check.OUTSIDE);
        }
        C.due("nothing was turned", Check.look(x, 0, lane, 0) + Check.look(x, 0, lane, 1), 0);
    }

    private static void partFaults(int lane) {
        C.sentence("Terms", "4 PART by v (MISSING, OUTSIDE, ZERO)");
        HandLoom x = loom(lane);
        int was = Check.lay(x, 0, lane, 1, 5);
        for (int k = 0; k < NO_END.length; k++) {
            C.fault("MISSING ahead of all", x, k, x.act(Check.PART, 1, lane, NO_END[k], 0), Check.MISSING);
            C.fault("OUTSIDE ahead of ZERO", x, k, x.act(Check.PART, 0, lane, NO_END[k], 0), Check.OUTSIDE);
        }
        C.fault("OUTSIDE", x, NO_END.length, x.act(Check.PART, 0, lane, 2, 3), Check.OUTSIDE);
        if (lane != Check.LIFT) {
            C.fault("ZERO", x, 0, x.act(Check.PART, 0, lane, 1, 0), Check.ZERO);
            C.due("it stays", Check.look(x, 0, lane, 1), was);
            C.fault("ZERO of 0", x, 1, x.act(Check.PART, 0, lane, 0, 0), Check.ZERO);
            C.due("by 1", x.act(Check.PART, 0, lane, 1, 1), was);
        }
    }

    private static void eachAnswersWhatTheEndTells(int lane) {
        C.sentence("Terms", "Each answers what the END tells then");
        HandLoom x = loom(lane);
        x.spool(65535);
        x.spool(-32769);
        for (int kind = 0; kind <= 4; kind++) {
            int got = x.act(kind, 0, lane, 1, -1);
            C.due("kind " + kind, got, Check.look(x, 0, lane, 1));
            C.due("the other end", Check.look(x, 0, lane, 0), 0);
        }
        C.due("no faults", Check.total(x), 0);
    }

    private static void layOfLift() {
        C.sentence("Terms", "LAY: of LIFT up if v is odd, else down");
        for (int odd : ODD) {
            for (int even : EVEN) {
                HandLoom x = loom(Check.LIFT);
                C.due("down, " + even, Check.lay(x, 0, Check.LIFT, 0, even), 0);
                C.due("up, " + odd, Check.lay(x, 0, Check.LIFT, 0, odd), 1);
                C.due("up stays up, " + odd, Check.lay(x, 0, Check.LIFT, 0, odd), 1);
                C.due("up is down, " + even, Check.lay(x, 0, Check.LIFT, 0, even), 0);
            }
        }
    }

    private static void layOfTension() {
        C.sentence("Terms", "LAY: of TENSION v eighths (v to single precision, the nearest, of two the even one; by 8)");
        int[] exact = {0, 1, -1, 7, 8, 9, -9, 32767, -32767, 32768, -32768};
        for (int v : exact) {
            HandLoom x = loom(Check.TENSION);
            C.due("LAY " + v, Check.lay(x, 0, Check.TENSION, 0, v), v);
            C.due("by 8", x.act(Check.PART, 0, Check.TENSION, 0, 8), v / 8);
        }
    }

    private static void pullOfLift() {
        C.sentence("Terms", "PULL: of LIFT it changes if v is odd");
        for (int odd : ODD) {
            for (int even : EVEN) {
                HandLoom x = loom(Check.LIFT);
                C.due("down, " + even, Check.pull(x, 0, Check.LIFT, 0, even), 0);
                C.due("down, " + odd, Check.pull(x, 0, Check.LIFT, 0, odd), 1);
                C.due("up, " + even, Check.pull(x, 0, Check.LIFT, 0, even), 1);
                C.due("up, " + odd, Check.pull(x, 0, Check.LIFT, 0, odd), 0);
            }
        }
    }

    /** v is not held ahead of the sum, and the sum is of what the end has, not of what it tells. */
    private static void pullOfTension() {
        C.sentence("Terms", "PULL: of TENSION it and v eighths as told, the sum to the nearest");
        HandLoom x = loom(Check.TENSION);
        Check.lay(x, 0, Check.TENSION, 0, -32768);
        C.due("v above 4096", Check.pull(x, 0, Check.TENSION, 0, 40000), 7232);
        C.due("v below -4096", Check.pull(x, 0, Check.TENSION, 0, -40000), -32768);
        Check.lay(x, 0, Check.TENSION, 1, 1);
        x.act(Check.PART, 0, Check.TENSION, 1, 2);
        C.due("half an eighth and -1", Check.pull(x, 0, Check.TENSION, 1, -1), 0);
        C.due("and -1", Check.pull(x, 0, Check.TENSION, 1, -1), -1);
        C.due("and 2", Check.pull(x, 0, Check.TENSION, 1, 2), 0);
        C.due("and 1", Check.pull(x, 0, Check.TENSION, 1, 1), 1);
    }

    private static void turnOfTension() {
        C.sentence("Terms", "TURN: of TENSION eight eighths more, to the nearest");
        HandLoom x = loom(Check.TENSION);
        Check.lay(x, 0, Check.TENSION, 0, -1);
        x.act(Check.PART, 0, Check.TENSION, 0, 1024);
        C.due("2047 less half a digit of 2048", Check.pull(x, 0, Check.TENSION, 0, 16376), 16375);
        C.due("is exact up to 2048", x.act(Check.TURN, 0, Check.TENSION, 0, 0), 16383);
        C.due("above it goes to the even one", x.act(Check.TURN, 0, Check.TENSION, 0, 0), 16392);
        C.due("over 0", Check.lay(x, 0, Check.TENSION, 1, -3), -3);
        C.due("eight more", x.act(Check.TURN, 0, Check.TENSION, 1, 0), 5);
    }

    private static void partIsCutTowardsNought() {
        C.sentence("Terms", "PART: the END becomes what it has, divided by v, cut towards 0");
        int[] signed = {Check.LENGTH, Check.DYE};
        for (int lane : signed) {
            parted(lane, 17, 5, 3);
            parted(lane, -17, 5, -3);
            parted(lane, 17, -5, -3);
            parted(lane, -17, -5, 3);
            parted(lane, -1, 2, 0);
            parted(lane, 1, -2, 0);
            parted(lane, 127, MAX, 0);
            parted(lane, -128, MIN, 0);
        }
        parted(Check.YARN, 65535, 2, 32767);
        parted(Check.YARN, 65535, 65535, 1);
        parted(Check.YARN, 65535, 65536, 0);
        parted(Check.YARN, 65535, -65535, 65535);
        parted(Check.YARN, 65535, -65536, 0);
        parted(Check.YARN, 17, -5, 65533);
        parted(Check.LENGTH, -32768, 32768, -1);
        parted(Check.LENGTH, -32768, 32769, 0);
        parted(Check.LENGTH, -32768, -32768, 1);
    }

    private static void parted(int lane, int from, int by, int due) {
        HandLoom x = loom(lane);
        Check.lay(x, 0, lane, 0, from);
        C.due("lane " + lane + ": " + from + " by " + by, x.act(Check.PART, 0, lane, 0, by), due);
        C.due("no fault", x.told(0), 0);
    }

    private static void partOfTension() {
        C.sentence("Terms", "PART: of TENSION the quotient by v (to single precision), to the nearest");
        parted(Check.TENSION, 17, 5, 3);
        parted(Check.TENSION, -17, 5, -3);
        parted(Check.TENSION, 32768, 32768, 1);
        parted(Check.TENSION, 32768, 32769, 0);
        parted(Check.TENSION, -32768, -32768, 1);
        parted(Check.TENSION, 32768, MIN, 0);
        HandLoom x = loom(Check.TENSION);
        Check.lay(x, 0, Check.TENSION, 0, -16384);
        x.act(Check.PART, 0, Check.TENSION, 0, 16777215);
        C.due("the nearest is more than half a digit", Check.pull(x, 0, Check.TENSION, 0, 16448), 16447);
        Check.lay(x, 0, Check.TENSION, 0, 10);
        for (int k = 0; k < 3; k++) {
            x.act(Check.PART, 0, Check.TENSION, 0, 10);
        }
        C.due("a hundredth", Check.look(x, 0, Check.TENSION, 0), 0);
        C.due("0 by less than 0", partedNought(x), 0);
    }

    private static int partedNought(HandLoom x) {
        Check.lay(x, 0, Check.TENSION, 1, 0);
        x.act(Check.PART, 0, Check.TENSION, 1, -7);
        return Check.look(x, 0, Check.TENSION, 1);
    }

    private static void partOfLift() {
        C.sentence("Terms", "PART: of LIFT it is down then if v is even, and there is no ZERO");
        for (int odd : ODD) {
            HandLoom x = loom(Check.LIFT);
            C.due("down by odd", x.act(Check.PART, 0, Check.LIFT, 0, odd), 0);
            x.act(Check.TURN, 0, Check.LIFT, 0, 0);
            C.due("up by odd", x.act(Check.PART, 0, Check.LIFT, 0, odd), 1);
        }
        for (int even : EVEN) {
            HandLoom x = loom(Check.LIFT);
            C.due("down by even", x.act(Check.PART, 0, Check.LIFT, 0, even), 0);
            x.act(Check.TURN, 0, Check.LIFT, 0, 0);
            C.due("up by even", x.act(Check.PART, 0, Check.LIFT, 0, even), 0);
            C.due("it is down", Check.look(x, 0, Check.LIFT, 0), 0);
            C.due("no fault", Check.total(x), 0);
        }
    }
}
