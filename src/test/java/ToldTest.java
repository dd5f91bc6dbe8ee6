/** Promise 18 told. */
public final class ToldTest {
    private static final Check C = new Check();

    public static void main(String[] args) {
        others();
        everyCallClears();
        whatIsNotToldOf();
        counts();
        sums();
        wovenToEnds();
        C.close();
    }

    private static void others() {
        HandLoom x = new HandLoom();
        int[] bad = {-1, 10, 11, 32, Integer.MIN_VALUE, Integer.MAX_VALUE};
        for (int what : bad) {
            C.due("told(" + what + ")", x.told(what), Check.NONE);
        }
    }

    private static void fail(HandLoom x) {
        x.thread(0, 0, -1);
        C.due("a fault", x.told(0), Check.SIZE);
    }

    /** Each call that is told of puts 0 where it has no fault. */
    private static void everyCallClears() {
        HandLoom x = new HandLoom();
        for (int call = 0; call < 11; call++) {
            if (call == 10) {
                x.cloth(1, 1);
            }
            fail(x);
            callWithoutFault(x, call);
            C.due("call " + call, x.told(0), 0);
        }
        C.due("SIZE in all", x.told(Check.SIZE), 11);
        C.due("no others", Check.total(x), 11);
    }

    private static void callWithoutFault(HandLoom x, int call) {
        switch (call) {
            case 0:
                x.thread(0, Check.YARN, 3);
                break;
            case 1:
                x.tie(1, Check.YARN, 0);
                break;
            case 2:
                x.ends(0, Check.YARN);
                break;
            case 3:
                x.act(Check.LOOK, 0, Check.YARN, 0, 0);
                break;
            case 4:
                x.swap(0, Check.YARN, 0, 1);
                break;
            case 5:
                x.cloth(2, 0);
                break;
            case 6:
                x.hang(0, 1);
                break;
            case 7:
                x.weave(0, 0, 0);
                break;
            case 8:
                x.snip(0);
                break;
            case 9:
                x.card(Check.TURN, 0, Check.YARN, 0, 0);
                x.run(1);
                break;
            default:
                x.cell(0, 0);
                break;
        }
    }

    private static void whatIsNotToldOf() {
        HandLoom x = new HandLoom();
        x.thread(0, Check.YARN, 1);
        fail(x);
        x.cut(0, Check.YARN);
        x.spool(1);
        x.card(0, 0, 0, 0, 0);
        x.unhook();
        x.keeper(2);
        x.keeper(1);
        x.told(1);
        x.told(99);
        C.due("these leave it", x.told(0), Check.SIZE);
        C.due("told(0) itself, too", x.told(0), Check.SIZE);
        x.run(1);
        x.thread(0, 0, 25);
        x.cloth(25, 0);
        x.act(5, 0, 0, 0, 0);
        x.weave(4, 0, 0);
        C.due("NONE leaves it", x.told(0), Check.SIZE);
    }

    private static void counts() {
        HandLoom x = new HandLoom();
        x.thread(0, Check.YARN, 1);
        for (int k = 1; k <= 6; k++) {
            x.ends(1, Check.YARN);
            C.due("MISSING", x.told(1), k);
            if (k <= 5) {
                x.act(Check.LOOK, 0, Check.YARN, 1, 0);
                C.due("OUTSIDE", x.told(2), k);
            }
            if (k <= 4) {
                x.cloth(-1, 0);
                C.due("SIZE", x.told(3), k);
            }
            if (k <= 3) {
                x.act(Check.PULL, 0, Check.YARN, 0, 0);
                C.due("EMPTY", x.told(4), k);
            }
            if (k <= 2) {
                x.act(Check.PART, 0, Check.YARN, 0, 0);
                C.due("ZERO", x.told(5), k);
            }
        }
        for (int k = 1; k <= 5; k++) {
            C.due("in all", x.told(k), 7 - k);
        }
        C.due("the latest", x.told(0), Check.MISSING);
    }

    private static void sums() {
        HandLoom x = new HandLoom();
        C.due("before", x.told(8), 0);
        x.thread(0, Check.LENGTH, 1);
        Check.lay(x, 0, Check.LENGTH, 0, -30000);
        x.card(Check.LOOK, 0, Check.LENGTH, 0, 0);
        x.run(12);
        C.due("added up", x.told(8), -360000);
        x.run(13);
        x.run(0);
        C.due("NONE leaves it", x.told(8), -360000);
        x.unhook();
        x.run(1);
        C.due("so does unhook, and NONE without cards", x.told(8), -360000);
        x.act(Check.TURN, 0, Check.LENGTH, 0, 0);
        C.due("act() is not added", x.told(8), -360000);
        x.card(Check.LOOK, 1, Check.LENGTH, 0, 0);
        x.run(1);
        C.due("nothing but a fault", x.told(8), 0);
    }

    private static void wovenToEnds() {
        HandLoom x = new HandLoom();
        x.thread(0, Check.LIFT, 2);
        x.thread(0, Check.LENGTH, 2);
        x.cloth(2, 2);
        x.weave(0, 0, 1);
        x.weave(0, 0, 1);
        x.weave(0, 1, 1);
        C.due("three times", x.told(9), 3);
        x.cloth(2, 3);
        C.due("new cloth leaves it", x.told(9), 3);
        x.weave(0, 0, 1);
        x.weave(0, 2, 1);
        C.due("a fault does not count", x.told(9), 3);
        x.snip(0);
        x.weave(0, 0, 1);
        C.due("nor does no pick", x.told(9), 3);
    }
}
