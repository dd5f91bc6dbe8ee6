/** The boundary cases that promises 1 to 5 and 8 name: a new object, thread, cut, tie, ends, swap. */
public final class EdgesOfLanesTest {
    private static final Check C = new Check();
    private static final int MIN = Integer.MIN_VALUE;
    private static final int MAX = Integer.MAX_VALUE;

    private static final int BY_THREAD = 0;
    private static final int BY_CUT = 1;
    private static final int BY_TIE = 2;
    private static final int BY_TIE_TO_NONE = 3;

    public static void main(String[] args) {
        newHasNothing();
        newPassesOverNothing();
        for (int lane = 0; lane < 5; lane++) {
            threadedWithUpTo24(lane);
            threadedAnewWithNoughts(lane);
            sizeLeavesIt(lane);
            cutOrNot(lane);
            tiedToOneThatIsNot(lane);
            tiedTellsHowMany(lane);
            for (int loosened = 0; loosened < 3; loosened++) {
                for (int way = BY_THREAD; way <= BY_TIE_TO_NONE; way++) {
                    tiedTillAnew(lane, loosened, way);
                }
            }
            endsOrMissing(lane);
            swapTellsTheFirst(lane);
            swapFaults(lane);
        }
        swapKeepsLessThanAnEighth();
        C.close();
    }

    private static void newHasNothing() {
        C.sentence("1 A new object", "No LANE is THREADED; no THREADS, no CLOTH, no CARDS");
        HandLoom x = new HandLoom();
        for (int k = 0; k < 20; k++) {
            C.due("cut", x.cut(k / 5, k % 5), 0);
        }
        C.due("no threads", x.told(6), 0);
        C.fault("nothing to draw", x, 0, x.act(Check.LAY, 0, 0, 0, 0), Check.EMPTY);
        C.fault("no cloth", x, 0, x.snip(0), Check.MISSING);
        C.due("no cards", x.told(7), 0);
        C.due("nothing to run", x.run(1), Check.NONE);
        C.due("nothing to unhook", x.unhook(), 0);
    }

    private static void newPassesOverNothing() {
        C.sentence("1 A new object", "the KEEPER passes over nothing");
        for (int fault = 1; fault <= 5; fault++) {
            if (fault == Check.SIZE) {
                continue;
            }
            HandLoom x = new HandLoom();
            x.thread(0, Check.YARN, 1);
            Check.hookFault(x, fault);
            C.due("fault " + fault, x.run(1), 0);
            C.due("told", x.told(0), fault);
        }
    }

    private static void threadedWithUpTo24(int lane) {
        C.sentence("2 thread", "A LANE is THREADED anew with n ENDS (24 at most): n");
        for (int n = 0; n <= 24; n++) {
            HandLoom x = new HandLoom();
            x.ends(3, lane);
            C.due("thread " + n, x.thread(3, lane, n), n);
            C.due("no fault", x.told(0), 0);
            C.due("ends " + n, x.ends(3, lane), n);
            C.due("threaded", x.told(0), 0);
        }
        int[] above = {25, 32, 256, 65536, MAX};
        for (int n : above) {
            HandLoom x = new HandLoom();
            x.thread(3, lane, 7);
            C.due("thread " + n, x.thread(3, lane, n), Check.NONE);
            C.due("as it was", x.ends(3, lane), 7);
            C.due("an unthreaded one", x.thread(2, lane, n), Check.NONE);
            C.due("as it was", x.cut(2, lane), 0);
        }
    }

    private static void threadedAnewWithNoughts(int lane) {
        C.sentence("2 thread", "ENDS, which have 0 each, are down");
        int[] sizes = {24, 1, 24, 12, 0, 24};
        HandLoom x = new HandLoom();
        for (int n : sizes) {
            x.thread(1, lane, n);
            for (int i = 0; i < n; i++) {
                C.due("end " + i + " of " + n, Check.look(x, 1, lane, i), 0);
                Check.lay(x, 1, lane, i, -3);
            }
        }
        HandLoom y = new HandLoom();
        y.thread(1, Check.TENSION, 1);
        Check.lay(y, 1, Check.TENSION, 0, -1);
        y.act(Check.PART, 1, Check.TENSION, 0, 2);
        y.thread(1, Check.TENSION, 1);
        C.due("0 and not a part of an eighth", Check.pull(y, 1, Check.TENSION, 0, 8), 8);
    }

    private static void sizeLeavesIt(int lane) {
        C.sentence("2 thread", "SIZE: below 0, it stays as it was");
        int[] below = {-1, -24, -25, MIN};
        for (int n : below) {
            HandLoom x = new HandLoom();
            C.fault("an unthreaded one, " + n, x, 0, x.thread(0, lane, n), Check.SIZE);
            C.due("stays so", x.cut(0, lane), 0);
            x.thread(0, lane, 24);
            int was = Check.lay(x, 0, lane, 23, 3);
            x.tie(1, lane, 0);
            C.fault("a threaded one, " + n, x, 1, x.thread(0, lane, n), Check.SIZE);
            C.due("stays so", x.ends(0, lane), 24);
            C.due("with what it has", Check.look(x, 0, lane, 23), was);
            x.act(Check.TURN, 0, lane, 5, 0);
            C.due("and tied", Check.look(x, 1, lane, 5), lane == Check.TENSION ? 8 : 1);
        }
    }

    private static void cutOrNot(int lane) {
        C.sentence("3 cut", "A LANE is not THREADED any more: 1 if it was, else 0");
        HandLoom x = new HandLoom();
        C.due("never threaded", x.cut(2, lane), 0);
        x.thread(2, lane, 24);
        x.thread(1, lane, 2);
        C.due("with 24 ends", x.cut(2, lane), 1);
        C.fault("not threaded any more", x, 0, x.ends(2, lane), Check.MISSING);
        C.due("again", x.cut(2, lane), 0);
        C.due("another frame's is let alone", x.ends(1, lane), 2);
        x.thread(2, lane, 0);
        C.due("without ends", x.cut(2, lane), 1);
        C.due("again", x.cut(2, lane), 0);
        C.due("no more faults", Check.total(x), 1);
    }

    private static void tiedToOneThatIsNot(int lane) {
        C.sentence("4 tie", "not THREADED, if that is not: 0 when it is not THREADED");
        HandLoom x = new HandLoom();
        C.due("both are not", x.tie(0, lane, 3), 0);
        C.due("no fault", Check.total(x), 0);
        x.thread(0, lane, 5);
        C.due("that is not", x.tie(0, lane, 3), 0);
        C.due("told", x.told(0), 0);
        C.fault("it is not, either", x, 0, x.ends(0, lane), Check.MISSING);
        C.due("the other one is threaded", x.thread(3, lane, 4), 4);
        C.due("which is the other one alone", x.cut(0, lane), 0);
        C.due("tied now", x.tie(0, lane, 3), 4);
        x.cut(3, lane);
        C.due("stays threaded when that is cut", x.ends(0, lane), 4);
    }

    private static void tiedTellsHowMany(int lane) {
        C.sentence("4 tie", "how many ENDS there are");
        for (int n = 0; n <= 24; n += 8) {
            HandLoom x = new HandLoom();
            x.thread(3, lane, n);
            x.thread(0, lane, 11);
            C.due("tie", x.tie(0, lane, 3), n);
            C.due("ends", x.ends(0, lane), n);
            C.due("tie the other way", x.tie(3, lane, 0), n);
            C.due("no fault", Check.total(x), 0);
            C.due("threaded, with " + n, x.cut(0, lane), 1);
        }
    }

    /** Frames 0, 1 and 2 are tied, 3 stands apart; one of the three is loosened. */
    private static void tiedTillAnew(int lane, int loosened, int way) {
        C.sentence("4 tie", "till one of them is THREADED, cut or tied anew (the others stay tied with each other)");
        String what = "frame " + loosened + ", way " + way;
        int turn = lane == Check.TENSION ? 8 : 1;
        HandLoom x = new HandLoom();
        x.thread(0, lane, 3);
        x.tie(1, lane, 0);
        x.tie(2, lane, 1);
        if (way == BY_TIE) {
            x.thread(3, lane, 4);
        }
        x.act(Check.TURN, loosened, lane, 0, 0);
        loosen(x, lane, loosened, way);
        int one = (loosened + 1) % 3;
        int another = (loosened + 2) % 3;
        C.due(what + ": what was turned before", Check.look(x, one, lane, 0), turn);
        C.due(what + ": in both", Check.look(x, another, lane, 0), turn);
        x.act(Check.TURN, one, lane, 1, 0);
        C.due(what + ": the others stay tied", Check.look(x, another, lane, 1), turn);
        x.act(Check.TURN, another, lane, 2, 0);
        C.due(what + ": both ways", Check.look(x, one, lane, 2), turn);
        boolean threaded = way == BY_THREAD || way == BY_TIE;
        int before = x.told(Check.MISSING);
        for (int i = 0; i < 3; i++) {
            C.due(what + ": it is tied with them no more", Check.look(x, loosened, lane, i), 0);
        }
        C.due(what + ": threaded or not", x.told(Check.MISSING) - before, threaded ? 0 : 3);
        if (threaded) {
            x.act(Check.TURN, loosened, lane, 1, 0);
            x.act(Check.TURN, loosened, lane, 1, 0);
            x.act(Check.TURN, loosened, lane, 1, 0);
            C.due(what + ": nor they with it", Check.look(x, one, lane, 1), turn);
        }
        if (way == BY_TIE) {
            C.due(what + ": tied with the new one", Check.look(x, 3, lane, 1), lane == Check.LIFT ? 1 : 3 * turn);
        }
    }

    private static void loosen(HandLoom x, int lane, int frame, int way) {
        switch (way) {
            case BY_THREAD -> C.due("thread", x.thread(frame, lane, 3), 3);
            case BY_CUT -> C.due("cut", x.cut(frame, lane), 1);
            case BY_TIE -> C.due("tie", x.tie(frame, lane, 3), 4);
            default -> C.due("tie to none", x.tie(frame, lane, 3), 0);
        }
    }

    private static void endsOrMissing(int lane) {
        C.sentence("5 ends", "How many ENDS a LANE has. MISSING.");
        HandLoom x = new HandLoom();
        C.fault("never threaded", x, 0, x.ends(3, lane), Check.MISSING);
        x.thread(3, lane, 0);
        C.due("none", x.ends(3, lane), 0);
        C.due("which is no fault", x.told(0), 0);
        x.thread(3, lane, 24);
        C.due("all", x.ends(3, lane), 24);
        x.cut(3, lane);
        C.fault("cut", x, 1, x.ends(3, lane), Check.MISSING);
    }

    private static void swapTellsTheFirst(int lane) {
        C.sentence("8 swap", "ENDS i and j of a LANE change places: what the first one told before");
        HandLoom x = new HandLoom();
        x.thread(1, lane, 24);
        Check.lay(x, 1, lane, 0, 3);
        int first = Check.look(x, 1, lane, 0);
        C.due("the ends of the lane", x.swap(1, lane, 0, 23), first);
        C.due("the last one has it", Check.look(x, 1, lane, 23), first);
        C.due("the first one has 0", Check.look(x, 1, lane, 0), 0);
        C.due("named the other way", x.swap(1, lane, 0, 23), 0);
        C.due("back again", Check.look(x, 1, lane, 0), first);
        C.due("with itself", x.swap(1, lane, 0, 0), first);
        C.due("it stays", Check.look(x, 1, lane, 0), first);
        x.thread(1, lane, 1);
        C.due("the only one with itself", x.swap(1, lane, 0, 0), 0);
        C.due("no faults", Check.total(x), 0);
    }

    private static void swapKeepsLessThanAnEighth() {
        C.sentence("8 swap", "ENDS i and j of a LANE change places (what they have, not what they tell)");
        HandLoom x = new HandLoom();
        x.thread(0, Check.TENSION, 24);
        Check.lay(x, 0, Check.TENSION, 0, -1);
        x.act(Check.PART, 0, Check.TENSION, 0, 2);
        C.due("both tell 0", x.swap(0, Check.TENSION, 0, 23), 0);
        C.due("0", Check.pull(x, 0, Check.TENSION, 0, 8), 8);
        C.due("less than 0", Check.pull(x, 0, Check.TENSION, 23, 8), 7);
    }

    private static void swapFaults(int lane) {
        C.sentence("8 swap", "MISSING, OUTSIDE (of either)");
        HandLoom x = new HandLoom();
        C.fault("not threaded", x, 0, x.swap(1, lane, 0, 0), Check.MISSING);
        C.fault("MISSING ahead of OUTSIDE", x, 1, x.swap(1, lane, -1, 24), Check.MISSING);
        x.thread(1, lane, 0);
        C.fault("no ends", x, 0, x.swap(1, lane, 0, 0), Check.OUTSIDE);
        x.thread(1, lane, 24);
        Check.lay(x, 1, lane, 0, 3);
        int was = Check.look(x, 1, lane, 0);
        int[] none = {-1, 24, MIN, MAX};
        int told = 1;
        for (int i : none) {
            C.fault("the first", x, told, x.swap(1, lane, i, 0), Check.OUTSIDE);
            C.fault("the second", x, told + 1, x.swap(1, lane, 0, i), Check.OUTSIDE);
            C.fault("both, told once", x, told + 2, x.swap(1, lane, i, i), Check.OUTSIDE);
            told += 3;
        }
        C.due("nothing changed", Check.look(x, 1, lane, 0), was);
    }
}
