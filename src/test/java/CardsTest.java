/** Promises 14 card, 15 unhook, 16 keeper and 17 run. */
public final class CardsTest {
    private static final Check C = new Check();

    public static void main(String[] args) {
        hooking();
        noSuchCard();
        keeping();
        counts();
        inOrderAndRound();
        everyKind();
        ended();
        passedOver();
        eachFaultHasItsBit();
        lanesAreFoundWhenRun();
        C.close();
    }

    private static void hooking() {
        HandLoom x = new HandLoom();
        x.ends(0, 0);
        for (int k = 1; k <= 12; k++) {
            C.due("card", x.card(k % 5, k % 4, k % 5, k - 6, k), k);
        }
        C.none("12 are all", x, Check.MISSING, 1, x.card(0, 0, 0, 0, 0));
        C.due("12 cards", x.told(7), 12);
        C.due("unhook", x.unhook(), 12);
        C.due("no cards", x.told(7), 0);
        C.due("unhook again", x.unhook(), 0);
        C.due("cards and unhook are not told of", x.told(0), Check.MISSING);
        C.due("nothing to run", x.run(1), Check.NONE);
        C.due("a new first one", x.card(0, 3, 4, Integer.MIN_VALUE, Integer.MAX_VALUE), 1);
    }

    private static void noSuchCard() {
        HandLoom x = new HandLoom();
        x.ends(0, 0);
        int[] bad = {-1, 5, Integer.MIN_VALUE, Integer.MAX_VALUE};
        for (int b : bad) {
            C.none("no such kind", x, Check.MISSING, 1, x.card(b, 0, 0, 0, 0));
            C.none("no such frame", x, Check.MISSING, 1, x.card(0, b == 5 ? 4 : b, 0, 0, 0));
            C.none("no such lane", x, Check.MISSING, 1, x.card(0, 0, b, 0, 0));
        }
        C.due("no cards", x.told(7), 0);
    }

    private static void keeping() {
        HandLoom x = new HandLoom();
        x.card(Check.LOOK, 0, 0, 0, 0);
        for (int mask = 0; mask < 64; mask++) {
            C.due("keeper(" + mask + ")", x.keeper(mask), (mask & 1) == 0);
        }
        C.due("passes over MISSING: 62 was the last", x.run(1), 1);
        int[] others = {1, 64, 3, 65, 66, 128, -1, -2, Integer.MIN_VALUE, Integer.MAX_VALUE, Integer.MIN_VALUE + 2};
        for (int mask : others) {
            C.due("keeper(" + mask + ")", x.keeper(mask), false);
        }
        C.due("nothing was changed", x.run(1), 1);
        C.due("nothing any more", x.keeper(0), true);
        C.due("from now on", x.run(1), 0);
        C.due("false changes nothing", x.keeper(-1), false);
        C.due("still nothing", x.run(1), 0);
        C.due("another kind", x.keeper(1 << Check.OUTSIDE), true);
        C.due("not this one", x.run(1), 0);
        C.due("act() is not kept", x.act(0, 0, 0, 0, 0), 0);
        C.due("it has its fault", x.told(0), Check.MISSING);
    }

    private static void counts() {
        HandLoom x = new HandLoom();
        C.due("no cards", x.run(1), Check.NONE);
        x.thread(0, 0, 1);
        x.card(Check.TURN, 0, 0, 0, 0);
        x.ends(1, 0);
        int[] bad = {0, -1, 13, Integer.MIN_VALUE, Integer.MAX_VALUE};
        for (int n : bad) {
            C.none("run(" + n + ")", x, Check.MISSING, 1, x.run(n));
        }
        C.due("no card was done", Check.look(x, 0, 0, 0), 0);
        int sum = 0;
        for (int n = 1; n <= 12; n++) {
            sum += n;
            C.due("run(" + n + ")", x.run(n), n);
            C.due("done so often", Check.look(x, 0, 0, 0), sum);
        }
    }

    private static void inOrderAndRound() {
        HandLoom x = new HandLoom();
        x.thread(0, Check.YARN, 2);
        for (int v = 1; v <= 9; v++) {
            x.spool(v);
        }
        x.card(Check.LAY, 0, Check.YARN, 0, 0);
        x.card(Check.PULL, 0, Check.YARN, 1, 0);
        x.card(Check.PULL, 0, Check.YARN, 0, 0);
        C.due("five of three", x.run(5), 5);
        C.due("end 0: 1, 1 + 3, 4", Check.look(x, 0, Check.YARN, 0), 4);
        C.due("end 1: 2, 2 + 5", Check.look(x, 0, Check.YARN, 1), 7);
        C.due("1 + 2 + 4 + 4 + 7", x.told(8), 18);
        C.due("one", x.run(1), 1);
        C.due("from the first one on again", Check.look(x, 0, Check.YARN, 0), 6);
        C.due("the latest run alone", x.told(8), 6);
        C.due("cards stay", x.told(7), 3);
    }

    private static void everyKind() {
        HandLoom x = new HandLoom();
        x.thread(3, Check.TENSION, 4);
        x.spool(100);
        x.spool(11);
        x.card(Check.LAY, 3, Check.TENSION, 2, 999);
        x.card(Check.PULL, 3, Check.TENSION, 2, 999);
        x.card(Check.TURN, 3, Check.TENSION, 2, 999);
        x.card(Check.PART, 3, Check.TENSION, 2, -2);
        x.card(Check.LOOK, 3, Check.TENSION, 2, 999);
        C.due("each as its act", x.run(5), 5);
        C.due("it is there", Check.look(x, 3, Check.TENSION, 2), -59);
        C.due("100 + 111 + 119 - 59 - 59", x.told(8), 212);
        C.due("no fault", Check.total(x), 0);
    }

    private static void ended() {
        HandLoom x = new HandLoom();
        x.thread(0, Check.DYE, 3);
        x.card(Check.TURN, 0, Check.DYE, 0, 0);
        x.card(Check.PART, 0, Check.DYE, 0, 0);
        x.card(Check.TURN, 0, Check.DYE, 1, 0);
        C.due("ended by ZERO", x.run(12), 1);
        C.due("told", x.told(0), Check.ZERO);
        C.due("counted", x.told(Check.ZERO), 1);
        C.due("the first was done", Check.look(x, 0, Check.DYE, 0), 1);
        C.due("the third was not", Check.look(x, 0, Check.DYE, 1), 0);
        C.due("added up", x.told(8), 1);
        x.keeper(0);
        C.due("a run without it", x.run(1), 1);
        C.due("no fault", x.told(0), 0);
        x.keeper(1 << Check.ZERO);
        C.due("passed over now", x.run(12), 12);
        C.due("four times", x.told(Check.ZERO), 5);
    }

    private static void passedOver() {
        HandLoom x = new HandLoom();
        x.thread(0, Check.YARN, 1);
        x.keeper(1 << Check.OUTSIDE | 1 << Check.EMPTY);
        x.spool(40);
        x.card(Check.LAY, 0, Check.YARN, 1, 0);
        x.card(Check.LAY, 0, Check.YARN, 0, 0);
        x.card(Check.TURN, 0, Check.YARN, 0, 0);
        x.card(Check.TURN, 0, Check.YARN, 7, 0);
        C.due("all done", x.run(4), 4);
        C.due("no fault ended it", x.told(0), 0);
        C.due("OUTSIDE twice", x.told(Check.OUTSIDE), 2);
        C.due("the thread was gone: EMPTY", x.told(Check.EMPTY), 1);
        C.due("turned", Check.look(x, 0, Check.YARN, 0), 1);
        C.due("faults add 0", x.told(8), 1);
        x.card(Check.TURN, 1, Check.YARN, 0, 0);
        C.due("another one ends it", x.run(7), 4);
        C.due("that is told", x.told(0), Check.MISSING);
        C.due("those passed over count, too", x.told(Check.OUTSIDE), 3);
        C.due("EMPTY ahead of OUTSIDE in the second run", x.told(Check.EMPTY), 3);
    }

    private static void eachFaultHasItsBit() {
        int[] kinds = {Check.MISSING, Check.OUTSIDE, Check.EMPTY, Check.ZERO};
        for (int fault : kinds) {
            for (int bit = 1; bit <= 5; bit++) {
                HandLoom x = new HandLoom();
                x.thread(0, Check.YARN, 1);
                Check.hookFault(x, fault);
                x.keeper(1 << bit);
                C.due("fault " + fault + ", bit " + bit, x.run(2), bit == fault ? 2 : 0);
                C.due("told(0)", x.told(0), bit == fault ? 0 : fault);
                C.due("counted", x.told(fault), bit == fault ? 2 : 1);
                x.keeper(62 - (1 << bit));
                C.due("all but bit " + bit, x.run(1), bit == fault ? 0 : 1);
            }
        }
    }

    private static void lanesAreFoundWhenRun() {
        HandLoom x = new HandLoom();
        C.due("a card for an unthreaded lane", x.card(Check.TURN, 2, Check.LIFT, 0, 0), 1);
        C.due("has a fault", x.run(1), 0);
        x.thread(2, Check.LIFT, 1);
        C.due("till it is threaded", x.run(3), 3);
        C.due("up, down, up", Check.look(x, 2, Check.LIFT, 0), 1);
        C.due("1 + 0 + 1", x.told(8), 2);
        x.cut(2, Check.LIFT);
        C.due("and cut", x.run(1), 0);
        C.due("nothing was answered", x.told(8), 0);
    }
}
