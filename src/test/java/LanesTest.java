/** Promises 2 thread, 3 cut, 4 tie, 5 ends and 8 swap. */
public final class LanesTest {
    private static final Check C = new Check();

    public static void main(String[] args) {
        for (int lane = 0; lane < 5; lane++) {
            threading(lane);
            cutting(lane);
            tying(lane);
            tiesAreLoosened(lane);
            lanesAreSwapped(lane);
        }
        noSuchLane();
        tyingManyTimes();
        swapKeepsWhatIsNotTold();
        C.close();
    }

    private static void threading(int lane) {
        HandLoom x = new HandLoom();
        C.due("thread 24", x.thread(1, lane, 24), 24);
        C.due("ends 24", x.ends(1, lane), 24);
        x.act(Check.TURN, 1, lane, 23, 0);
        C.due("thread anew", x.thread(1, lane, 24), 24);
        for (int i = 0; i < 24; i++) {
            C.due("anew: an end has 0", Check.look(x, 1, lane, i), 0);
        }
        C.fault("no end 24", x, 0, Check.look(x, 1, lane, 24), Check.OUTSIDE);
        C.fault("no end -1", x, 1, Check.look(x, 1, lane, -1), Check.OUTSIDE);
        C.fault("no end at the top", x, 2, Check.look(x, 1, lane, Integer.MAX_VALUE), Check.OUTSIDE);
        C.fault("no end at the bottom", x, 3, Check.look(x, 1, lane, Integer.MIN_VALUE), Check.OUTSIDE);
        C.none("25 are too many", x, Check.OUTSIDE, 4, x.thread(1, lane, 25));
        C.none("so are the most", x, Check.OUTSIDE, 4, x.thread(1, lane, Integer.MAX_VALUE));
        x.act(Check.TURN, 1, lane, 5, 0);
        int five = Check.look(x, 1, lane, 5);
        C.fault("below 0", x, 0, x.thread(1, lane, -1), Check.SIZE);
        C.fault("far below 0", x, 1, x.thread(1, lane, Integer.MIN_VALUE), Check.SIZE);
        C.due("it stays as it was", x.ends(1, lane), 24);
        C.due("with what its ends have", Check.look(x, 1, lane, 5), five);
        C.due("thread 0", x.thread(1, lane, 0), 0);
        C.due("told(0)", x.told(0), 0);
        C.due("0 ends", x.ends(1, lane), 0);
        C.due("which is no fault", x.told(0), 0);
        C.fault("0 ends, no end 0", x, 4, Check.look(x, 1, lane, 0), Check.OUTSIDE);
        C.fault("SIZE leaves an unthreaded one so", x, 2, x.thread(2, lane, -5), Check.SIZE);
        C.fault("MISSING", x, 0, x.ends(2, lane), Check.MISSING);
        C.due("fewer", x.thread(1, lane, 3), 3);
        C.due("more again", x.thread(1, lane, 6), 6);
        C.due("the new ones have 0", Check.look(x, 1, lane, 5), 0);
        C.due("a lane of another frame is its own", x.cut(0, lane), 0);
    }

    private static void cutting(int lane) {
        HandLoom x = new HandLoom();
        x.thread(3, lane, 2);
        C.fault("a fault ahead of cut", x, 0, Check.look(x, 3, lane, 2), Check.OUTSIDE);
        C.due("cut", x.cut(3, lane), 1);
        C.due("cut is not told of", x.told(0), Check.OUTSIDE);
        C.due("cut again", x.cut(3, lane), 0);
        C.due("cut has no fault", Check.total(x), 1);
        C.fault("cut: MISSING", x, 0, x.ends(3, lane), Check.MISSING);
        x.thread(3, lane, 0);
        C.due("cut one without ends", x.cut(3, lane), 1);
    }

    private static void tying(int lane) {
        HandLoom x = new HandLoom();
        x.ends(0, lane);
        C.due("tie to an unthreaded one", x.tie(0, lane, 1), 0);
        C.due("which is no fault", x.told(0), 0);
        x.thread(0, lane, 3);
        x.thread(1, lane, 4);
        C.due("tie", x.tie(0, lane, 1), 4);
        C.due("tied: ends", x.ends(0, lane), 4);
        x.act(Check.TURN, 0, lane, 3, 0);
        C.due("an end of the one is that of the other", Check.look(x, 1, lane, 3), Check.look(x, 0, lane, 3));
        C.due("and was turned", Check.look(x, 1, lane, 3) != 0, true);
        x.act(Check.TURN, 1, lane, 0, 0);
        C.due("and the other way round", Check.look(x, 0, lane, 0) != 0, true);
        C.due("tie a third", x.tie(2, lane, 0), 4);
        C.due("tie a fourth", x.tie(3, lane, 2), 4);
        x.act(Check.TURN, 3, lane, 1, 0);
        C.due("all four are one", Check.look(x, 1, lane, 1) != 0, true);
        C.due("the frame that it was tied to is cut", x.cut(1, lane), 1);
        x.act(Check.TURN, 2, lane, 2, 0);
        C.due("the others stay tied", Check.look(x, 0, lane, 2) != 0, true);
        C.due("all of them", Check.look(x, 3, lane, 2) != 0, true);
        C.due("tie to one that is not threaded", x.tie(2, lane, 1), 0);
        C.fault("it is not threaded then", x, 1, x.ends(2, lane), Check.MISSING);
        C.due("the other two are", x.ends(0, lane) + x.ends(3, lane), 8);
        C.due("a lane with itself", x.tie(0, lane, 0), 4);
        x.act(Check.TURN, 0, lane, 0, 0);
        C.due("stays tied with the others", Check.look(x, 3, lane, 0), Check.look(x, 0, lane, 0));
        x.thread(1, lane, 0);
        C.due("tie to one without ends", x.tie(3, lane, 1), 0);
        C.due("which is threaded", x.cut(3, lane), 1);
    }

    private static void tiesAreLoosened(int lane) {
        HandLoom x = new HandLoom();
        x.thread(0, lane, 5);
        x.tie(1, lane, 0);
        x.tie(2, lane, 1);
        x.tie(3, lane, 2);
        C.fault("SIZE does not loosen", x, 0, x.thread(1, lane, -1), Check.SIZE);
        C.due("nor does NONE", x.thread(1, lane, 25), Check.NONE);
        x.act(Check.TURN, 1, lane, 4, 0);
        C.due("still tied", Check.look(x, 0, lane, 4), Check.look(x, 1, lane, 4));
        C.due("threaded anew, alone", x.thread(0, lane, 5), 5);
        C.due("it has 0", Check.look(x, 0, lane, 4), 0);
        C.due("the others do not", Check.look(x, 3, lane, 4) != 0, true);
        x.act(Check.TURN, 0, lane, 1, 0);
        C.due("and are not turned with it", Check.look(x, 2, lane, 1), 0);
        x.act(Check.TURN, 3, lane, 2, 0);
        C.due("the others stay tied", Check.look(x, 1, lane, 2) != 0, true);
        C.due("cut one of them", x.cut(3, lane), 1);
        x.act(Check.TURN, 1, lane, 3, 0);
        C.due("the last two stay tied", Check.look(x, 2, lane, 3) != 0, true);
        C.due("tied anew to the first", x.tie(2, lane, 0), 5);
        C.due("it is as that one", Check.look(x, 2, lane, 1) != 0, true);
        C.due("and not as its old one", Check.look(x, 2, lane, 2), 0);
        C.due("that one stays", Check.look(x, 1, lane, 2) != 0, true);
    }

    private static void lanesAreSwapped(int lane) {
        HandLoom x = new HandLoom();
        C.fault("swap: MISSING", x, 0, x.swap(0, lane, 0, 1), Check.MISSING);
        C.fault("swap: MISSING ahead of OUTSIDE", x, 1, x.swap(0, lane, -1, 99), Check.MISSING);
        x.thread(0, lane, 3);
        Check.lay(x, 0, lane, 0, 3);
        int first = Check.look(x, 0, lane, 0);
        C.due("it tells something", first != 0, true);
        C.fault("swap: the first is OUTSIDE", x, 0, x.swap(0, lane, 3, 0), Check.OUTSIDE);
        C.fault("swap: the second is OUTSIDE", x, 1, x.swap(0, lane, 0, 3), Check.OUTSIDE);
        C.fault("swap: below 0", x, 2, x.swap(0, lane, -1, 0), Check.OUTSIDE);
        C.fault("swap: the second below 0", x, 3, x.swap(0, lane, 0, -1), Check.OUTSIDE);
        C.due("nothing changed", Check.look(x, 0, lane, 0), first);
        C.due("swap with itself", x.swap(0, lane, 0, 0), first);
        C.due("told(0)", x.told(0), 0);
        x.tie(1, lane, 0);
        C.due("swap", x.swap(0, lane, 0, 2), first);
        C.due("the first has what the last had", Check.look(x, 0, lane, 0), 0);
        C.due("the last what the first had, in the tied one too", Check.look(x, 1, lane, 2), first);
        C.due("the first one told 0", x.swap(0, lane, 1, 2), 0);
        C.due("and the second is there", Check.look(x, 0, lane, 1), first);
    }

    private static void noSuchLane() {
        HandLoom x = new HandLoom();
        for (int lane = 0; lane < 5; lane++) {
            x.thread(0, lane, 2);
        }
        x.ends(1, 0);
        int[][] wrong = {{-1, 0}, {4, 0}, {0, -1}, {0, 5}, {Integer.MIN_VALUE, 0}, {Integer.MAX_VALUE, 0},
            {0, Integer.MIN_VALUE}, {0, Integer.MAX_VALUE}, {-1, 5}, {1, -5}};
        for (int[] w : wrong) {
            C.none("thread", x, Check.MISSING, 1, x.thread(w[0], w[1], 2));
            C.none("thread, ahead of SIZE", x, Check.MISSING, 1, x.thread(w[0], w[1], -2));
            C.none("cut", x, Check.MISSING, 1, x.cut(w[0], w[1]));
            C.none("tie", x, Check.MISSING, 1, x.tie(w[0], w[1], 0));
            C.none("ends", x, Check.MISSING, 1, x.ends(w[0], w[1]));
            C.none("swap", x, Check.MISSING, 1, x.swap(w[0], w[1], 0, 1));
        }
        int[] noFrames = {-1, 4, Integer.MIN_VALUE, Integer.MAX_VALUE};
        for (int other : noFrames) {
            C.none("tie to no frame", x, Check.MISSING, 1, x.tie(0, 0, other));
        }
        for (int lane = 0; lane < 5; lane++) {
            C.due("nothing happened", x.ends(0, lane), 2);
        }
    }

    /** Lanes are threaded and tied over and over: no frame may lose its lane to another one. */
    private static void tyingManyTimes() {
        HandLoom x = new HandLoom();
        for (int round = 0; round < 60; round++) {
            int frame = round % 4;
            int other = (round / 4 + 1) % 4;
            C.due("thread " + round, x.thread(frame, Check.DYE, 1 + round % 24), 1 + round % 24);
            Check.lay(x, frame, Check.DYE, 0, round);
            C.due("tie " + round, x.tie(other, Check.DYE, frame), 1 + round % 24);
            C.due("tied " + round, Check.look(x, other, Check.DYE, 0), round);
        }
    }

    /** Two tensions that tell the same: which is which shows when both are pulled. */
    private static void swapKeepsWhatIsNotTold() {
        HandLoom x = new HandLoom();
        x.thread(0, Check.TENSION, 2);
        Check.lay(x, 0, Check.TENSION, 0, -1);
        C.due("less than an eighth", x.act(Check.PART, 0, Check.TENSION, 0, 2), 0);
        C.due("swap", x.swap(0, Check.TENSION, 0, 1), 0);
        C.due("the first is 0", Check.pull(x, 0, Check.TENSION, 0, 8), 8);
        C.due("the second is less", Check.pull(x, 0, Check.TENSION, 1, 8), 7);
    }
}
