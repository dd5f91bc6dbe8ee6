/** The boundary cases that promises 9 to 13 name: cloth, snip, hang, cell, weave. */
public final class EdgesOfClothTest {
    private static final Check C = new Check();
    private static final int MIN = Integer.MIN_VALUE;
    private static final int MAX = Integer.MAX_VALUE;

    public static void main(String[] args) {
        noClothAtFirst();
        clothUpTo24();
        clothAbove24();
        clothBelow0();
        clothIsAllNought();
        snippedOrNot();
        snipFaults();
        hangTells();
        hungOnNone();
        hungTillAnew();
        hangFaults();
        cellsAreInts();
        cellFaults();
        wovenWhole();
        wovenUpOrDown();
        theFirstFaultEndsIt();
        faultsOfACellInOrder();
        weaveFaultsOfThePick();
        C.close();
    }

    /** Frame 0 has LIFT (all down) and LENGTH of 24 ends, so that weave() shows the weft. */
    private static HandLoom weftLoom(int n, int m) {
        HandLoom x = new HandLoom();
        x.thread(0, Check.LIFT, 24);
        x.thread(0, Check.LENGTH, 24);
        x.cloth(n, m);
        return x;
    }

    private static void noClothAtFirst() {
        C.sentence("Terms", "CLOTH (none at first); MISSING: there is no CLOTH");
        HandLoom x = new HandLoom();
        C.fault("snip", x, 0, x.snip(0), Check.MISSING);
        C.fault("hang", x, 1, x.hang(0, 0), Check.MISSING);
        C.fault("cell", x, 2, x.cell(0, 0), Check.MISSING);
        C.fault("weave", x, 3, x.weave(0, 0, 0), Check.MISSING);
    }

    private static void clothUpTo24() {
        C.sentence("9 cloth", "New CLOTH of n PICKS of m CELLS: n * m");
        int[] sizes = {0, 1, 2, 23, 24};
        for (int n : sizes) {
            for (int m : sizes) {
                HandLoom x = new HandLoom();
                C.due("cloth " + n + " " + m, x.cloth(n, m), n * m);
                C.due("no fault", Check.total(x), 0);
                x.cell(n - 1, m - 1);
                C.due("the last cell", x.told(0), n > 0 && m > 0 ? 0 : Check.OUTSIDE);
                x.snip(n - 1);
                C.due("the last pick", x.told(0), n > 0 ? 0 : Check.OUTSIDE);
                x.snip(n);
                C.due("no further pick", x.told(0), Check.OUTSIDE);
                x.cell(0, m);
                C.due("no further cell", x.told(0), n == 1 ? Check.MISSING : Check.OUTSIDE);
                C.due("there is cloth", x.told(Check.MISSING), n == 1 ? 1 : 0);
            }
        }
    }

    private static void clothAbove24() {
        C.sentence("9 cloth", "none of both is above 24 (else NONE, ahead of SIZE)");
        int[] above = {25, 26, 65536, MAX};
        int[] others = {0, 24, 25, MAX, -1, MIN};
        for (int a : above) {
            for (int b : others) {
                HandLoom x = weftLoom(2, 2);
                x.weave(0, 1, 8);
                C.due("picks " + a + ", cells " + b, x.cloth(a, b), Check.NONE);
                C.due("picks " + b + ", cells " + a, x.cloth(b, a), Check.NONE);
                C.due("no fault", Check.total(x), 0);
                C.due("the cloth is as it was", x.cell(1, 1), 8);
            }
        }
        HandLoom y = new HandLoom();
        y.cloth(25, 1);
        y.cloth(1, 25);
        C.fault("none from none", y, 0, y.snip(0), Check.MISSING);
    }

    private static void clothBelow0() {
        C.sentence("9 cloth", "SIZE: one of both is below 0, the CLOTH stays as it was");
        int[] below = {-1, -24, MIN};
        int[] others = {0, 1, 24, -1, MIN};
        for (int a : below) {
            for (int b : others) {
                HandLoom x = weftLoom(3, 2);
                x.weave(0, 1, 8);
                x.snip(2);
                x.hang(0, 1);
                C.fault("picks", x, 0, x.cloth(a, b), Check.SIZE);
                C.fault("cells", x, 1, x.cloth(b, a), Check.SIZE);
                C.due("cells stay", x.cell(1, 1), 8);
                C.fault("a snipped pick stays so", x, 0, x.cell(2, 0), Check.MISSING);
                x.weave(0, 0, 9);
                C.due("a hung one, too", x.cell(1, 0), 9);
            }
        }
        HandLoom y = new HandLoom();
        C.fault("without cloth", y, 0, y.cloth(-1, 1), Check.SIZE);
        C.fault("there is none then", y, 0, y.snip(0), Check.MISSING);
    }

    private static void clothIsAllNought() {
        C.sentence("9 cloth", "all 0");
        int[] picks = {24, 3, 24};
        HandLoom x = weftLoom(0, 0);
        for (int n : picks) {
            x.cloth(n, 24);
            for (int p = 0; p < n; p++) {
                C.due("pick " + p + " of " + n, x.cell(p, 0) | x.cell(p, 12) | x.cell(p, 23), 0);
                C.due("it is there", x.told(0), 0);
            }
            for (int p = 0; p < n; p += 5) {
                C.due("woven", x.weave(0, p, -1), 24);
            }
            x.hang(2, 0);
            x.snip(1);
        }
        x.cloth(3, 24);
        x.weave(0, 0, -1);
        C.due("none is hung", x.cell(2, 0), 0);
        C.due("none is snipped", x.snip(1), 1);
    }

    private static void snippedOrNot() {
        C.sentence("10 snip", "PICK p is none any more: 1 if it was there, else 0");
        HandLoom x = weftLoom(24, 24);
        C.due("the first", x.snip(0), 1);
        C.due("again", x.snip(0), 0);
        C.due("the last", x.snip(23), 1);
        C.due("again", x.snip(23), 0);
        C.due("no faults", Check.total(x), 0);
        C.fault("none any more", x, 0, x.cell(23, 0), Check.MISSING);
        C.fault("not to be woven", x, 1, x.weave(0, 0, 1), Check.MISSING);
        C.due("the next one is there", x.weave(0, 1, 3), 24);
        C.due("the last but one, too", x.weave(0, 22, 4), 24);
        x.cloth(2, 0);
        C.due("one without cells", x.snip(1), 1);
        C.due("again", x.snip(1), 0);
    }

    private static void snipFaults() {
        C.sentence("10 snip", "MISSING: there is no CLOTH. OUTSIDE.");
        int[] none = {-1, 3, 24, MIN, MAX};
        HandLoom x = new HandLoom();
        for (int k = 0; k < none.length; k++) {
            C.fault("MISSING ahead of OUTSIDE", x, k, x.snip(none[k]), Check.MISSING);
        }
        x.cloth(3, 1);
        for (int k = 0; k < none.length; k++) {
            C.fault("OUTSIDE", x, k, x.snip(none[k]), Check.OUTSIDE);
        }
        x.cloth(0, 24);
        C.fault("no picks", x, none.length, x.snip(0), Check.OUTSIDE);
    }

    private static void hangTells() {
        C.sentence("11 hang", "PICK p becomes the same as PICK q: how many CELLS it has");
        int[] widths = {0, 1, 24};
        for (int m : widths) {
            HandLoom x = weftLoom(24, m);
            C.due("the first on the last", x.hang(0, 23), m);
            C.due("the last on the first", x.hang(23, 0), m);
            C.due("on itself", x.hang(5, 5), m);
            x.snip(7);
            C.due("one that was snipped", x.hang(7, 0), m);
            C.due("is there again", x.snip(7), 1);
            C.due("no faults", Check.total(x), 0);
        }
    }

    private static void hungOnNone() {
        C.sentence("11 hang", "(none, if that is none): 0 if it is none");
        HandLoom x = weftLoom(3, 4);
        x.snip(2);
        C.due("hung on a snipped one", x.hang(0, 2), 0);
        C.due("no fault", Check.total(x), 0);
        C.fault("it is none", x, 0, x.cell(0, 0), Check.MISSING);
        C.due("nothing to snip", x.snip(0), 0);
        C.due("none on itself", x.hang(2, 2), 0);
        C.due("none on none", x.hang(0, 2), 0);
        C.due("that is hung on one that is there", x.hang(2, 1), 4);
        C.due("alone", x.snip(0), 0);
    }

    /** Picks 0, 1 and 2 are the same, 3 and 4 stand apart (4 is snipped); one of the three is loosened. */
    private static void hungTillAnew() {
        C.sentence("11 hang", "a CELL of the one is that of the other, till one of them is snipped or hung anew");
        for (int loosened = 0; loosened < 3; loosened++) {
            for (int way = 0; way < 3; way++) {
                HandLoom x = weftLoom(5, 2);
                x.snip(4);
                x.hang(1, 0);
                x.hang(2, 1);
                x.weave(0, loosened, 11);
                for (int p = 0; p < 3; p++) {
                    C.due("all are the same", x.cell(p, 1), 11);
                }
                int got = way == 0 ? x.snip(loosened) : x.hang(loosened, way == 1 ? 3 : 4);
                C.due("loosened", got, way == 0 ? 1 : way == 1 ? 2 : 0);
                int one = (loosened + 1) % 3;
                int another = (loosened + 2) % 3;
                C.due("the others have what they had", x.cell(one, 0) + x.cell(another, 0), 22);
                x.weave(0, one, 12);
                C.due("and are the same", x.cell(another, 1), 12);
                x.weave(0, another, 13);
                C.due("both ways", x.cell(one, 0), 13);
                C.due("it is not", x.cell(loosened, 0), 0);
                C.due("told", x.told(0), way == 1 ? 0 : Check.MISSING);
                C.due("woven alone", x.weave(0, loosened, 14), way == 1 ? 2 : 0);
                C.due("which leaves them", x.cell(one, 0), 13);
                C.due("and shows in the new one", x.cell(3, 1), way == 1 ? 14 : 0);
            }
        }
    }

    private static void hangFaults() {
        C.sentence("11 hang", "MISSING: there is no CLOTH. OUTSIDE (of q first)");
        int[] none = {-1, 3, MIN, MAX};
        HandLoom x = new HandLoom();
        C.fault("no cloth", x, 0, x.hang(0, 0), Check.MISSING);
        C.fault("ahead of q", x, 1, x.hang(0, -1), Check.MISSING);
        C.fault("ahead of p", x, 2, x.hang(-1, 0), Check.MISSING);
        x.thread(0, Check.LIFT, 1);
        x.thread(0, Check.LENGTH, 1);
        x.cloth(3, 1);
        x.snip(2);
        x.weave(0, 0, 5);
        int told = 0;
        for (int bad : none) {
            C.fault("of q", x, told, x.hang(0, bad), Check.OUTSIDE);
            C.fault("of p", x, told + 1, x.hang(bad, 0), Check.OUTSIDE);
            C.fault("of both, told once", x, told + 2, x.hang(bad, bad), Check.OUTSIDE);
            C.fault("of p, on a snipped one", x, told + 3, x.hang(bad, 2), Check.OUTSIDE);
            C.fault("of q, a snipped one", x, told + 4, x.hang(2, bad), Check.OUTSIDE);
            told += 5;
        }
        C.due("nothing changed", x.cell(0, 0) * 10 + x.cell(1, 0), 50);
        C.due("nor was it hung", x.snip(2), 0);
    }

    private static void cellsAreInts() {
        C.sentence("Terms", "PICKS, rows of CELLS, ints");
        int[] wefts = {0, 1, -1, 65536, MAX, MIN};
        HandLoom x = weftLoom(24, 24);
        for (int weft : wefts) {
            C.due("weave", x.weave(0, 23, weft), 24);
            C.due("cell", x.cell(23, 23), weft);
            C.due("no fault, whatever it has", x.told(0), 0);
        }
    }

    private static void cellFaults() {
        C.sentence("12 cell", "MISSING, OUTSIDE (of the PICK, then MISSING of it, then OUTSIDE of the CELL)");
        int[] noPick = {-1, 3, MIN, MAX};
        int[] noCell = {-1, 2, MIN, MAX};
        HandLoom x = new HandLoom();
        C.fault("no cloth", x, 0, x.cell(0, 0), Check.MISSING);
        C.fault("ahead of the pick", x, 1, x.cell(-1, -1), Check.MISSING);
        x.cloth(3, 2);
        x.snip(1);
        for (int k = 0; k < 4; k++) {
            C.fault("no pick", x, 3 * k, x.cell(noPick[k], 0), Check.OUTSIDE);
            C.fault("nor cell, told once", x, 3 * k + 1, x.cell(noPick[k], noCell[k]), Check.OUTSIDE);
            C.fault("snipped, ahead of the cell", x, 2 + k, x.cell(1, noCell[k]), Check.MISSING);
            C.fault("no cell", x, 3 * k + 2, x.cell(2, noCell[k]), Check.OUTSIDE);
        }
        C.fault("snipped", x, 6, x.cell(1, 1), Check.MISSING);
        C.due("the last cell", x.cell(2, 1), 0);
        C.due("is there", x.told(0), 0);
        x.cloth(1, 0);
        C.fault("no cells", x, 12, x.cell(0, 0), Check.OUTSIDE);
    }

    private static void wovenWhole() {
        C.sentence("13 weave", "PICK p is WOVEN with a frame, CELL by CELL from 0 on; How many CELLS were woven");
        int[] widths = {0, 1, 24};
        for (int m : widths) {
            HandLoom x = weftLoom(24, m);
            for (int frame = 1; frame < 4; frame++) {
                x.tie(frame, Check.LIFT, 0);
                x.tie(frame, Check.LENGTH, 0);
            }
            C.due("the first pick, frame 0", x.weave(0, 0, 5), m);
            C.due("the last pick, frame 3", x.weave(3, 23, 6), m);
            C.due("no fault", Check.total(x), 0);
            C.due("two to their ends", x.told(9), 2);
            for (int e = 0; e < m; e++) {
                C.due("cell " + e, x.cell(0, e) * 10 + x.cell(23, e), 56);
                C.due("length " + e, Check.look(x, 0, Check.LENGTH, e), -2);
            }
        }
        HandLoom y = new HandLoom();
        y.cloth(1, 0);
        C.due("no cells: no lane is looked at", y.weave(0, 0, 5), 0);
        C.due("no fault", Check.total(y), 0);
    }

    private static void wovenUpOrDown() {
        C.sentence("13 weave", "if it is up, its YARN at this END is the CELL's; else weft is");
        HandLoom x = weftLoom(1, 3);
        x.thread(0, Check.YARN, 3);
        Check.lay(x, 0, Check.YARN, 0, 65535);
        Check.lay(x, 0, Check.YARN, 1, 32768);
        x.act(Check.TURN, 0, Check.LIFT, 0, 0);
        x.act(Check.TURN, 0, Check.LIFT, 2, 0);
        C.due("weave", x.weave(0, 0, MIN), 3);
        C.due("up, the most", x.cell(0, 0), 65535);
        C.due("down, the least", x.cell(0, 1), MIN);
        C.due("up, 0", x.cell(0, 2), 0);
        x.cut(0, Check.YARN);
        x.act(Check.TURN, 0, Check.LIFT, 0, 0);
        x.act(Check.TURN, 0, Check.LIFT, 2, 0);
        C.due("all down: YARN is not asked for", x.weave(0, 0, 7), 3);
        C.due("no fault", x.told(0), 0);
    }

    /** One lane is too short by some ends: weaving ends at its end. */
    private static void theFirstFaultEndsIt() {
        C.sentence("13 weave", "The first FAULT ends it: what was woven ahead stays, of this CELL nothing is changed");
        int[] shortLanes = {Check.LIFT, Check.YARN, Check.LENGTH};
        int[] counts = {0, 1, 23};
        for (int lane : shortLanes) {
            for (int n : counts) {
                HandLoom x = new HandLoom();
                threadTurned(x, Check.LIFT, lane == Check.LIFT ? n : 24);
                threadTurned(x, Check.YARN, lane == Check.YARN ? n : 24);
                threadTurned(x, Check.LENGTH, lane == Check.LENGTH ? n : 24);
                x.cloth(2, 24);
                brokenOff("lane " + lane + " of " + n + " ends: ", x, n, lane == Check.LENGTH ? n : 24);
            }
        }
    }

    /** A lane of frame 0 whose ends are up, or have 1. */
    private static void threadTurned(HandLoom x, int lane, int n) {
        x.thread(0, lane, n);
        for (int i = 0; i < n; i++) {
            x.act(Check.TURN, 0, lane, i, 0);
        }
    }

    private static void brokenOff(String what, HandLoom x, int woven, int lengths) {
        C.due(what + "weave", x.weave(0, 1, 4), woven);
        C.due(what + "told(0)", x.told(0), Check.OUTSIDE);
        C.due(what + "told(2)", x.told(Check.OUTSIDE), 1);
        C.due(what + "told once", Check.total(x), 1);
        C.due(what + "not to its end", x.told(9), 0);
        for (int e = 0; e < 24; e++) {
            C.due(what + "cell " + e, x.cell(1, e), e < woven ? 1 : 0);
        }
        for (int i = 0; i < lengths; i++) {
            C.due(what + "length " + i, Check.look(x, 0, Check.LENGTH, i), i < woven ? 0 : 1);
        }
    }

    private static void faultsOfACellInOrder() {
        C.sentence("13 weave", "first the frame's LIFT is looked at; its YARN; then the LENGTH");
        // -1: not threaded; 0: no ends. Up: the LIFT, if it has an end, is up.
        int[][] cases = {
            // LIFT, YARN, LENGTH, up, the fault
            {-1, 0, 0, 0, Check.MISSING}, {0, -1, -1, 0, Check.OUTSIDE}, {1, -1, 0, 1, Check.MISSING},
            {1, 0, -1, 1, Check.OUTSIDE}, {1, 0, -1, 0, Check.MISSING}, {1, -1, 0, 0, Check.OUTSIDE},
            {1, 1, -1, 1, Check.MISSING}, {1, 1, 0, 1, Check.OUTSIDE}};
        for (int[] c : cases) {
            HandLoom x = new HandLoom();
            x.cloth(1, 1);
            int[] lanes = {Check.LIFT, Check.YARN, Check.LENGTH};
            for (int k = 0; k < 3; k++) {
                if (c[k] >= 0) {
                    x.thread(2, lanes[k], c[k]);
                }
            }
            if (c[0] > 0 && c[3] == 1) {
                x.act(Check.TURN, 2, Check.LIFT, 0, 0);
            }
            C.fault("LIFT " + c[0] + ", YARN " + c[1] + ", LENGTH " + c[2] + ", up " + c[3], x, 0, x.weave(2, 0, 5),
                c[4]);
            C.due("the cell stays", x.cell(0, 0), 0);
            C.due("not to its end", x.told(9), 0);
        }
    }

    private static void weaveFaultsOfThePick() {
        C.sentence("13 weave", "0 if the PICK itself has one: MISSING, OUTSIDE, MISSING as with cell()");
        int[] noPick = {-1, 2, 24, MIN, MAX};
        HandLoom x = new HandLoom();
        for (int k = 0; k < noPick.length; k++) {
            C.fault("no cloth", x, k, x.weave(0, noPick[k], 1), Check.MISSING);
        }
        x.thread(0, Check.LIFT, 2);
        x.thread(0, Check.LENGTH, 2);
        x.cloth(2, 2);
        x.snip(1);
        for (int k = 0; k < noPick.length; k++) {
            C.fault("no pick", x, k, x.weave(0, noPick[k], 1), Check.OUTSIDE);
        }
        C.fault("a snipped pick", x, noPick.length, x.weave(0, 1, 1), Check.MISSING);
        C.fault("no pick, ahead of the lanes", x, noPick.length, x.weave(3, 2, 1), Check.OUTSIDE);
        C.due("no length was used", Check.look(x, 0, Check.LENGTH, 0), 0);
        x.thread(3, Check.LIFT, 0);
        C.fault("a snipped pick, ahead of the lanes", x, noPick.length + 1, x.weave(3, 1, 1), Check.MISSING);
        C.due("none to its end", x.told(9), 0);
    }
}
