/** The boundary cases that the document's 'Terms' name ahead of the acts: lanes, what ends have, the spool. */
public final class EdgesOfTermsTest {
    private static final Check C = new Check();
    private static final int MIN = Integer.MIN_VALUE;
    private static final int MAX = Integer.MAX_VALUE;

    public static void main(String[] args) {
        upTo512Calls();
        fourFramesOfFiveLanes();
        endsByPlaces();
        notThreadedAtFirst();
        yarnIsModulo65536();
        lengthIsModulo65536();
        dyeIsModulo256();
        liftIsUpOrDown();
        tensionIsSingle();
        tensionGoesToTheEvenOne();
        tensionIsHeldAtTheTop();
        tensionIsHeldAtTheBottom();
        tensionTellsEighths();
        theSpoolHas16();
        drawnInOrder();
        C.close();
    }

    private static void upTo512Calls() {
        C.sentence("What it is", "An object is used for at most 512 calls after it has been made");
        HandLoom x = new HandLoom();
        for (int call = 1; call <= 510; call++) {
            x.ends(call % 4, call % 5);
        }
        C.due("call 511", x.told(Check.MISSING), 510);
        C.due("call 512", x.thread(3, Check.DYE, 24), 24);
        HandLoom y = new HandLoom();
        for (int call = 1; call <= 510; call++) {
            C.due("thread, call " + call, y.thread(call % 4, call % 5, call % 25), call % 25);
        }
        C.due("call 511", y.ends(2, 0), 510 % 25);
        C.due("call 512", y.told(0), 0);
    }

    private static void fourFramesOfFiveLanes() {
        C.sentence("Terms", "FRAMES 0 .. 3 have each five LANES");
        HandLoom x = new HandLoom();
        for (int frame = 0; frame < 4; frame++) {
            for (int lane = 0; lane < 5; lane++) {
                C.due("thread", x.thread(frame, lane, frame * 5 + lane), frame * 5 + lane);
            }
        }
        for (int frame = 0; frame < 4; frame++) {
            for (int lane = 0; lane < 5; lane++) {
                C.due("each lane is its own", x.ends(frame, lane), frame * 5 + lane);
            }
        }
        C.due("frame -1", x.ends(-1, 0), Check.NONE);
        C.due("frame 4", x.ends(4, 0), Check.NONE);
        C.due("lane -1", x.ends(0, -1), Check.NONE);
        C.due("lane -1 of the last frame", x.ends(3, -1), Check.NONE);
        C.due("lane 5", x.ends(0, 5), Check.NONE);
        C.due("lane 5 of the last frame", x.ends(3, 5), Check.NONE);
        C.due("no faults", Check.total(x), 0);
    }

    private static void endsByPlaces() {
        C.sentence("Terms", "A LANE is THREADED, and has ENDS, 0 .. 24, by places from 0 on");
        for (int lane = 0; lane < 5; lane++) {
            for (int n = 0; n <= 24; n++) {
                HandLoom x = new HandLoom();
                x.thread(0, lane, n);
                for (int i = 0; i < n; i++) {
                    x.act(Check.TURN, 0, lane, i, 0);
                    C.due("end " + i + " of " + n, x.told(0), 0);
                }
                C.fault("end -1 of " + n, x, 0, x.act(Check.TURN, 0, lane, -1, 0), Check.OUTSIDE);
                C.fault("end " + n + " of as many", x, 1, x.act(Check.TURN, 0, lane, n, 0), Check.OUTSIDE);
                for (int i = 0; i < n; i++) {
                    C.due("turned once", Check.look(x, 0, lane, i), lane == Check.TENSION ? 8 : 1);
                }
            }
        }
    }

    private static void notThreadedAtFirst() {
        C.sentence("Terms", "or it is not (at first)");
        HandLoom x = new HandLoom();
        for (int k = 0; k < 20; k++) {
            C.fault("lane " + k % 5 + " of frame " + k / 5, x, k, Check.look(x, k / 5, k % 5, 0), Check.MISSING);
        }
    }

    /** Lays the numbers, one after the other, at the only end of a lane; each is followed by what the end is due. */
    private static void laid(int lane, int... numbersAndDue) {
        HandLoom x = new HandLoom();
        x.thread(0, lane, 1);
        for (int k = 0; k < numbersAndDue.length; k += 2) {
            C.due("LAY " + numbersAndDue[k], Check.lay(x, 0, lane, 0, numbersAndDue[k]), numbersAndDue[k + 1]);
            C.due("LOOK " + numbersAndDue[k], Check.look(x, 0, lane, 0), numbersAndDue[k + 1]);
        }
    }

    /** From, by and what is due, of PULL. */
    private static void pulled(int lane, int from, int by, int due) {
        HandLoom x = new HandLoom();
        x.thread(0, lane, 1);
        Check.lay(x, 0, lane, 0, from);
        C.due("PULL " + from + " and " + by, Check.pull(x, 0, lane, 0, by), due);
        C.due("LOOK", Check.look(x, 0, lane, 0), due);
    }

    private static void turned(int lane, int from, int due) {
        HandLoom x = new HandLoom();
        x.thread(0, lane, 1);
        Check.lay(x, 0, lane, 0, from);
        C.due("TURN " + from, x.act(Check.TURN, 0, lane, 0, 0), due);
        C.due("LOOK", Check.look(x, 0, lane, 0), due);
    }

    private static void parted(int lane, int from, int by, int due) {
        HandLoom x = new HandLoom();
        x.thread(0, lane, 1);
        Check.lay(x, 0, lane, 0, from);
        C.due("PART " + from + " by " + by, x.act(Check.PART, 0, lane, 0, by), due);
        C.due("LOOK", Check.look(x, 0, lane, 0), due);
    }

    private static void yarnIsModulo65536() {
        C.sentence("Terms", "of YARN 0 .. 65535 (a number that comes there is taken modulo 65536)");
        laid(Check.YARN, 0, 0, 1, 1, 32767, 32767, 32768, 32768, 65534, 65534, 65535, 65535, 65536, 0, 65537, 1,
            131071, 65535, 131072, 0, -1, 65535, -65535, 1, -65536, 0, -65537, 65535, MAX, 65535, MIN, 0, MIN + 1, 1);
        pulled(Check.YARN, 65535, 1, 0);
        pulled(Check.YARN, 65535, 65535, 65534);
        pulled(Check.YARN, 0, -1, 65535);
        pulled(Check.YARN, 5, -65536, 5);
        pulled(Check.YARN, 65535, MAX, 65534);
        pulled(Check.YARN, 65535, MIN, 65535);
        turned(Check.YARN, 65534, 65535);
        turned(Check.YARN, 65535, 0);
        parted(Check.YARN, 65535, -1, 1);
        parted(Check.YARN, 5, -2, 65534);
        parted(Check.YARN, 65535, MIN, 0);
    }

    private static void lengthIsModulo65536() {
        C.sentence("Terms", "of LENGTH -32768 .. 32767 (a number that comes there is taken modulo 65536)");
        laid(Check.LENGTH, 0, 0, 32766, 32766, 32767, 32767, 32768, -32768, 32769, -32767, 65535, -1, 65536, 0, 65537,
            1, 98303, 32767, 98304, -32768, -1, -1, -32767, -32767, -32768, -32768, -32769, 32767, -65536, 0, MAX, -1,
            MIN, 0, MIN + 1, 1);
        pulled(Check.LENGTH, 32767, 1, -32768);
        pulled(Check.LENGTH, 32767, 32767, -2);
        pulled(Check.LENGTH, -32768, -1, 32767);
        pulled(Check.LENGTH, -32768, -32768, 0);
        pulled(Check.LENGTH, 32767, MAX, 32766);
        pulled(Check.LENGTH, -32768, MIN, -32768);
        turned(Check.LENGTH, 32766, 32767);
        turned(Check.LENGTH, 32767, -32768);
        turned(Check.LENGTH, -1, 0);
        parted(Check.LENGTH, -32768, -1, -32768);
        parted(Check.LENGTH, 32767, -1, -32767);
        HandLoom x = new HandLoom();
        x.thread(0, Check.LIFT, 1);
        x.thread(0, Check.LENGTH, 1);
        x.cloth(1, 1);
        Check.lay(x, 0, Check.LENGTH, 0, -32768);
        C.due("weave", x.weave(0, 0, 1), 1);
        C.due("one less than -32768", Check.look(x, 0, Check.LENGTH, 0), 32767);
    }

    private static void dyeIsModulo256() {
        C.sentence("Terms", "of DYE -128 .. 127 (a number that comes there is taken modulo 256)");
        laid(Check.DYE, 0, 0, 126, 126, 127, 127, 128, -128, 129, -127, 255, -1, 256, 0, 257, 1, 383, 127, 384, -128,
            -1, -1, -127, -127, -128, -128, -129, 127, -256, 0, 32768, 0, 65535, -1, MAX, -1, MIN, 0, MIN + 1, 1);
        pulled(Check.DYE, 127, 1, -128);
        pulled(Check.DYE, 127, 127, -2);
        pulled(Check.DYE, -128, -1, 127);
        pulled(Check.DYE, -128, -128, 0);
        pulled(Check.DYE, 127, MAX, 126);
        pulled(Check.DYE, -128, MIN, -128);
        turned(Check.DYE, 126, 127);
        turned(Check.DYE, 127, -128);
        turned(Check.DYE, -1, 0);
        parted(Check.DYE, -128, -1, -128);
        parted(Check.DYE, 127, -1, -127);
    }

    private static void liftIsUpOrDown() {
        C.sentence("Terms", "of LIFT up or down; As a number an END tells: of LIFT 1 or 0");
        laid(Check.LIFT, 0, 0, 1, 1, 2, 0, 3, 1, -1, 1, -2, 0, -3, 1, 65536, 0, 65537, 1, MAX, 1, MIN, 0, MIN + 1, 1);
        turned(Check.LIFT, 0, 1);
        turned(Check.LIFT, 1, 0);
    }

    /** What the end tells that had v eighths, was parted and then pulled by w. */
    private static int partedAndPulled(HandLoom x, int v, int by, int w) {
        Check.lay(x, 0, Check.TENSION, 0, v);
        x.act(Check.PART, 0, Check.TENSION, 0, by);
        return Check.pull(x, 0, Check.TENSION, 0, w);
    }

    private static HandLoom tensionLoom() {
        HandLoom x = new HandLoom();
        x.thread(0, Check.TENSION, 1);
        return x;
    }

    private static void tensionIsSingle() {
        C.sentence("Terms", "of TENSION a number of single precision (IEEE 754, 24 binary digits)");
        HandLoom x = tensionLoom();
        C.due("4000 less a little is 4000", partedAndPulled(x, -1, 1000000, 32000), 32000);
        C.due("1 less a little more than half a digit", partedAndPulled(x, -1, 4000000, 8), 7);
        C.due("1 less a little less than half a digit", partedAndPulled(x, -1, 5000000, 8), 8);
        C.due("2056 less one digit", partedAndPulled(x, -1, 512, 16448), 16447);
        C.due("2056 less a little more than half a digit", partedAndPulled(x, -1, 1023, 16448), 16447);
        C.due("2056 less a little less than half a digit", partedAndPulled(x, -1, 1025, 16448), 16448);
        Check.lay(x, 0, Check.TENSION, 0, 1);
        for (int k = 0; k < 12; k++) {
            x.act(Check.PART, 0, Check.TENSION, 0, MIN);
        }
        C.due("smaller than any", Check.look(x, 0, Check.TENSION, 0), 0);
        C.due("is 0, and can be parted", x.act(Check.PART, 0, Check.TENSION, 0, -3), 0);
        C.due("and pulled", Check.pull(x, 0, Check.TENSION, 0, -9), -9);
        C.due("no faults", Check.total(x), 0);
    }

    /** Half a digit off: once the even neighbour is the upper one, once the lower one. */
    private static void tensionGoesToTheEvenOne() {
        C.sentence("Terms", "the nearest, of two the even one");
        HandLoom x = tensionLoom();
        C.due("2056 less half a digit is 2056", partedAndPulled(x, -1, 1024, 16448), 16448);
        C.due("2056 less one and a half", partedAndPulled(x, -3, 1024, 16448), 16447);
        C.due("is less two", Check.pull(x, 0, Check.TENSION, 0, -16448), 0);
        x.act(Check.PART, 0, Check.TENSION, 0, 3);
        C.due("a third of which is more than half a digit", Check.pull(x, 0, Check.TENSION, 0, 16448), 16447);
        C.due("v of PART: 33554431 is 33554432", partedAndPulled(x, -32768, 33554431, 16448), 16448);
        Check.lay(x, 0, Check.TENSION, 0, -18020);
        x.act(Check.PART, 0, Check.TENSION, 0, 16780941);
        x.act(Check.PART, 0, Check.TENSION, 0, 1126);
        C.due("v of PART: 16780941 is 16780940", Check.pull(x, 0, Check.TENSION, 0, 24), 23);
    }

    private static void tensionIsHeldAtTheTop() {
        C.sentence("Terms", "HELD: more than 4096 is 4096");
        laid(Check.TENSION, 32767, 32767, 32768, 32768, 32769, 32768, 65536, 32768, 16777217, 32768, MAX, 32768);
        pulled(Check.TENSION, 32767, 1, 32768);
        pulled(Check.TENSION, 32767, 2, 32768);
        pulled(Check.TENSION, 32768, 1, 32768);
        pulled(Check.TENSION, 32768, MAX, 32768);
        pulled(Check.TENSION, -32768, 65535, 32767);
        pulled(Check.TENSION, -32768, 65536, 32768);
        pulled(Check.TENSION, -32768, 65537, 32768);
        pulled(Check.TENSION, -32768, MAX, 32768);
        turned(Check.TENSION, 32759, 32767);
        turned(Check.TENSION, 32760, 32768);
        turned(Check.TENSION, 32761, 32768);
        turned(Check.TENSION, 32768, 32768);
        parted(Check.TENSION, -32768, -1, 32768);
        HandLoom x = tensionLoom();
        C.due("half an eighth below", partedAndPulled(x, -1, 2, 32768), 32767);
        C.due("half an eighth above", Check.pull(x, 0, Check.TENSION, 0, 1), 32768);
        C.due("what is above is gone", Check.pull(x, 0, Check.TENSION, 0, -1), 32767);
        C.due("wholly", Check.pull(x, 0, Check.TENSION, 0, -32767), 0);
    }

    private static void tensionIsHeldAtTheBottom() {
        C.sentence("Terms", "HELD: less than -4096 is -4096");
        laid(Check.TENSION, -32767, -32767, -32768, -32768, -32769, -32768, -65536, -32768, MIN, -32768);
        pulled(Check.TENSION, -32767, -1, -32768);
        pulled(Check.TENSION, -32767, -2, -32768);
        pulled(Check.TENSION, -32768, -1, -32768);
        pulled(Check.TENSION, -32768, MIN, -32768);
        pulled(Check.TENSION, 32768, -65535, -32767);
        pulled(Check.TENSION, 32768, -65536, -32768);
        pulled(Check.TENSION, 32768, -65537, -32768);
        pulled(Check.TENSION, 32768, MIN, -32768);
        turned(Check.TENSION, -32768, -32760);
        parted(Check.TENSION, 32768, -1, -32768);
        HandLoom x = tensionLoom();
        C.due("half an eighth above", partedAndPulled(x, 1, 2, -32768), -32767);
        C.due("half an eighth below", Check.pull(x, 0, Check.TENSION, 0, -1), -32768);
        C.due("what is below is gone", Check.pull(x, 0, Check.TENSION, 0, 1), -32767);
        C.due("wholly", Check.pull(x, 0, Check.TENSION, 0, 32767), 0);
    }

    private static void tensionTellsEighths() {
        C.sentence("Terms", "of TENSION eight times it, cut towards 0");
        parted(Check.TENSION, 1, 2, 0);
        parted(Check.TENSION, -1, 2, 0);
        parted(Check.TENSION, 3, 2, 1);
        parted(Check.TENSION, -3, 2, -1);
        parted(Check.TENSION, 15, -4, -3);
        parted(Check.TENSION, -15, -4, 3);
        parted(Check.TENSION, 32767, 2, 16383);
        parted(Check.TENSION, -32767, 2, -16383);
    }

    private static void theSpoolHas16() {
        C.sentence("Terms", "THE SPOOL has up to 16 THREADS (ints)");
        HandLoom x = new HandLoom();
        x.thread(0, Check.YARN, 1);
        for (int k = 1; k <= 16; k++) {
            C.due("thread " + k, x.spool(k % 2 == 0 ? MIN + k : MAX - k), k);
        }
        C.due("a 17th", x.spool(17), Check.NONE);
        C.due("there are 16", x.told(6), 16);
        for (int k = 1; k <= 16; k++) {
            C.due("what it was", x.act(Check.LAY, 0, Check.YARN, 0, 0), k % 2 == 0 ? k : 65535 - k);
        }
        C.due("there is none", x.told(6), 0);
    }

    private static void drawnInOrder() {
        C.sentence("Terms", "in order; to DRAW is to take the first one away");
        HandLoom x = new HandLoom();
        x.thread(0, Check.YARN, 1);
        int wound = 0;
        int drawn = 0;
        for (int round = 0; round < 13; round++) {
            int room = 16 - round % 3 - (wound - drawn);
            for (int k = 0; k < room; k++) {
                wound++;
                x.spool(wound);
            }
            for (int k = 0; k < 5 + round % 7; k++) {
                drawn++;
                C.due("the first one", x.act(Check.LAY, 0, Check.YARN, 0, 0), drawn);
            }
            C.due("is away", x.told(6), wound - drawn);
        }
    }
}
