import java.util.function.Supplier;

/**
 * Terms: 'Where frame, lane, a kind or a count is said to be something and is not, an act answers NONE, nothing
 * happens, and there is no FAULT', and 'An ACT that has a FAULT answers 0 and changes nothing, but where it is told'.
 * Every way to be refused that the document names, each on a loom of its own that is compared with its twin.
 */
public final class RefusedTest {
    private static final Check C = new Check();
    private static final Twins T = new Twins(C);
    private static final int[] NO_FRAME = {-1, 4, Integer.MIN_VALUE, Integer.MAX_VALUE};
    private static final int[] NO_LANE = {-1, 5, Integer.MIN_VALUE, Integer.MAX_VALUE};
    private static final int[] NO_KIND = {-1, 5, Integer.MIN_VALUE, Integer.MAX_VALUE};
    private static final int[] ABOVE_24 = {25, 26, Integer.MAX_VALUE};
    private static final int[] BELOW_0 = {-1, -2, Integer.MIN_VALUE};
    private static final int[] NO_END = {-1, 3, Integer.MIN_VALUE, Integer.MAX_VALUE};
    private static final int[] NO_PICK = {-1, 4, Integer.MIN_VALUE, Integer.MAX_VALUE};

    public static void main(String[] args) {
        C.sentence("Terms", "an act answers NONE, nothing happens, and there is no FAULT");
        noSuchFrame();
        noSuchLane();
        noSuchKind();
        noSuchCount();
        full();
        C.sentence("Terms", "An ACT that has a FAULT answers 0 and changes nothing, but where it is told");
        missingLanes();
        missingPicks();
        outsideOfLanes();
        outsideOfCloth();
        sizes();
        empty();
        zero();
        C.close();
    }

    private static void noSuchFrame() {
        for (int f : NO_FRAME) {
            String frame = "frame " + f + ": ";
            T.none(frame + "thread", Twins::loom, x -> x.thread(f, 0, 2));
            T.none(frame + "thread, ahead of SIZE", Twins::loom, x -> x.thread(f, 0, -2));
            T.none(frame + "cut", Twins::loom, x -> x.cut(f, 0));
            T.none(frame + "tie", Twins::loom, x -> x.tie(f, 0, 1));
            T.none(frame + "tie to it", Twins::loom, x -> x.tie(0, 0, f));
            T.none(frame + "ends", Twins::loom, x -> x.ends(f, 0));
            T.none(frame + "swap", Twins::loom, x -> x.swap(f, 0, 0, 1));
            T.none(frame + "weave", Twins::loom, x -> x.weave(f, 0, 1));
            T.none(frame + "weave, ahead of no pick", Twins::loom, x -> x.weave(f, 9, 1));
            T.none(frame + "weave, ahead of a snipped pick", Twins::loom, x -> x.weave(f, 1, 1));
            T.none(frame + "weave, ahead of no cloth", HandLoom::new, x -> x.weave(f, 0, 1));
            for (int kind = 0; kind < 5; kind++) {
                int k = kind;
                T.none(frame + "act " + k, Twins::loom, x -> x.act(k, f, 0, 0, 0));
                T.none(frame + "card " + k, Twins::loom, x -> x.card(k, f, 0, 0, 0));
            }
        }
    }

    private static void noSuchLane() {
        for (int l : NO_LANE) {
            String lane = "lane " + l + ": ";
            T.none(lane + "thread", Twins::loom, x -> x.thread(0, l, 2));
            T.none(lane + "thread, ahead of SIZE", Twins::loom, x -> x.thread(0, l, -2));
            T.none(lane + "cut", Twins::loom, x -> x.cut(0, l));
            T.none(lane + "tie", Twins::loom, x -> x.tie(0, l, 1));
            T.none(lane + "ends", Twins::loom, x -> x.ends(0, l));
            T.none(lane + "swap", Twins::loom, x -> x.swap(0, l, 0, 1));
            for (int kind = 0; kind < 5; kind++) {
                int k = kind;
                T.none(lane + "act " + k, Twins::loom, x -> x.act(k, 0, l, 0, 0));
                T.none(lane + "card " + k, Twins::loom, x -> x.card(k, 0, l, 0, 0));
            }
        }
    }

    private static void noSuchKind() {
        for (int k : NO_KIND) {
            T.none("act of kind " + k, Twins::loom, x -> x.act(k, 0, 0, 0, 1));
            T.none("act of kind " + k + ", ahead of MISSING", Twins::loom, x -> x.act(k, 2, 0, 0, 1));
            T.none("act of kind " + k + ", ahead of OUTSIDE", Twins::loom, x -> x.act(k, 0, 0, 3, 1));
            T.none("card of kind " + k, Twins::loom, x -> x.card(k, 0, 0, 0, 1));
        }
    }

    private static void noSuchCount() {
        for (int n : ABOVE_24) {
            for (int lane = 0; lane < 5; lane++) {
                int l = lane;
                T.none("thread " + n, Twins::loom, x -> x.thread(0, l, n));
                T.none("thread an unthreaded one, " + n, Twins::loom, x -> x.thread(2, Check.YARN, n));
            }
            T.none("cloth of " + n + " picks", Twins::loom, x -> x.cloth(n, 1));
            T.none("cloth of " + n + " cells", Twins::loom, x -> x.cloth(1, n));
            T.none("cloth of both " + n, Twins::loom, x -> x.cloth(n, n));
            T.none("cloth of " + n + " picks, none of cells", Twins::loom, x -> x.cloth(n, 0));
            T.none("no cloth, " + n + " picks", HandLoom::new, x -> x.cloth(n, 1));
            for (int m : BELOW_0) {
                T.none("cloth of " + n + " picks, ahead of SIZE", Twins::loom, x -> x.cloth(n, m));
                T.none("cloth of " + n + " cells, ahead of SIZE", Twins::loom, x -> x.cloth(m, n));
            }
        }
        int[] noRun = {0, -1, 13, 14, Integer.MIN_VALUE, Integer.MAX_VALUE};
        for (int n : noRun) {
            T.none("run " + n, Twins::loom, x -> x.run(n));
            T.none("run " + n + " without cards", HandLoom::new, x -> x.run(n));
        }
        for (int n = 1; n <= 12; n++) {
            int m = n;
            T.none("run " + n + " without cards", RefusedTest::unhooked, x -> x.run(m));
        }
        int[] noWhat = {-1, 10, Integer.MIN_VALUE, Integer.MAX_VALUE};
        for (int what : noWhat) {
            T.none("told " + what, Twins::loom, x -> x.told(what));
        }
    }

    private static HandLoom unhooked() {
        HandLoom x = Twins.loom();
        x.unhook();
        return x;
    }

    private static void full() {
        T.none("a 17th thread", Twins::crowded, x -> x.spool(5));
        for (int kind = 0; kind < 5; kind++) {
            int k = kind;
            T.none("a 13th card", Twins::crowded, x -> x.card(k, 0, 0, 0, 1));
        }
    }

    /** Frame 2 has no YARN, LENGTH, TENSION and LIFT; its DYE is cut. */
    private static HandLoom withoutFrame2() {
        HandLoom x = Twins.loom();
        x.cut(2, Check.DYE);
        return x;
    }

    /** As withoutFrame2(), with its three threads drawn. */
    private static HandLoom withoutThreads() {
        HandLoom x = withoutFrame2();
        x.thread(3, Check.DYE, 1);
        for (int k = 0; k < 3; k++) {
            x.act(Check.LAY, 3, Check.DYE, 0, 0);
        }
        return x;
    }

    private static void missingLanes() {
        Supplier<HandLoom> maker = RefusedTest::withoutFrame2;
        for (int lane = 0; lane < 5; lane++) {
            int l = lane;
            String name = "lane " + l + " of frame 2: ";
            T.fault(name + "ends", Check.MISSING, maker, x -> x.ends(2, l));
            T.fault(name + "LOOK", Check.MISSING, maker, x -> x.act(Check.LOOK, 2, l, 0, 0));
            T.fault(name + "PULL", Check.MISSING, maker, x -> x.act(Check.PULL, 2, l, 0, 0));
            T.fault(name + "TURN", Check.MISSING, maker, x -> x.act(Check.TURN, 2, l, 0, 0));
            T.fault(name + "PART", Check.MISSING, maker, x -> x.act(Check.PART, 2, l, 0, 3));
            T.fault(name + "PART by 0", Check.MISSING, maker, x -> x.act(Check.PART, 2, l, -1, 0));
            T.fault(name + "swap", Check.MISSING, maker, x -> x.swap(2, l, 0, 0));
            T.fault(name + "swap of no ends", Check.MISSING, maker, x -> x.swap(2, l, -1, 24));
            T.fault(name + "PULL, no thread", Check.MISSING, RefusedTest::withoutThreads,
                x -> x.act(Check.PULL, 2, l, 24, 0));
        }
        T.fault("weave with frame 2", Check.MISSING, maker, x -> x.weave(2, 0, 1));
    }

    private static void missingPicks() {
        int[] any = {0, 23, -1, 24, Integer.MIN_VALUE, Integer.MAX_VALUE};
        for (int p : any) {
            T.fault("no cloth: snip", Check.MISSING, HandLoom::new, x -> x.snip(p));
            T.fault("no cloth: cell", Check.MISSING, HandLoom::new, x -> x.cell(p, p));
            T.fault("no cloth: weave", Check.MISSING, HandLoom::new, x -> x.weave(0, p, 1));
            for (int q : any) {
                T.fault("no cloth: hang", Check.MISSING, HandLoom::new, x -> x.hang(p, q));
            }
            T.fault("a snipped pick: cell", Check.MISSING, Twins::loom, x -> x.cell(1, p));
        }
        T.fault("a snipped pick: weave", Check.MISSING, Twins::loom, x -> x.weave(0, 1, 1));
        T.fault("a snipped pick: weave with frame 2", Check.MISSING, Twins::loom, x -> x.weave(2, 1, 1));
    }

    private static void outsideOfLanes() {
        for (int lane = 0; lane < 5; lane++) {
            int l = lane;
            for (int i : NO_END) {
                String end = "end " + i + " of lane " + l + ": ";
                T.fault(end + "LOOK", Check.OUTSIDE, Twins::loom, x -> x.act(Check.LOOK, 0, l, i, 0));
                T.fault(end + "PULL", Check.OUTSIDE, Twins::loom, x -> x.act(Check.PULL, 0, l, i, 0));
                T.fault(end + "PULL, no thread", Check.OUTSIDE, RefusedTest::withoutThreads,
                    x -> x.act(Check.PULL, 0, l, i, 0));
                T.fault(end + "TURN", Check.OUTSIDE, Twins::loom, x -> x.act(Check.TURN, 0, l, i, 0));
                T.fault(end + "PART", Check.OUTSIDE, Twins::loom, x -> x.act(Check.PART, 0, l, i, 2));
                T.fault(end + "PART by 0", Check.OUTSIDE, Twins::loom, x -> x.act(Check.PART, 0, l, i, 0));
                T.fault(end + "swap, the first", Check.OUTSIDE, Twins::loom, x -> x.swap(0, l, i, 0));
                T.fault(end + "swap, the second", Check.OUTSIDE, Twins::loom, x -> x.swap(0, l, 0, i));
                T.fault(end + "swap, both", Check.OUTSIDE, Twins::loom, x -> x.swap(0, l, i, i));
            }
        }
        T.fault("a lane without ends", Check.OUTSIDE, Twins::loom, x -> x.act(Check.TURN, 2, Check.DYE, 0, 0));
    }

    private static void outsideOfCloth() {
        for (int p : NO_PICK) {
            T.fault("snip " + p, Check.OUTSIDE, Twins::loom, x -> x.snip(p));
            T.fault("hang " + p + " on 0", Check.OUTSIDE, Twins::loom, x -> x.hang(p, 0));
            T.fault("hang 0 on " + p, Check.OUTSIDE, Twins::loom, x -> x.hang(0, p));
            T.fault("hang 1, which is snipped, on " + p, Check.OUTSIDE, Twins::loom, x -> x.hang(1, p));
            T.fault("hang " + p + " on 1, which is snipped", Check.OUTSIDE, Twins::loom, x -> x.hang(p, 1));
            T.fault("hang both", Check.OUTSIDE, Twins::loom, x -> x.hang(p, p));
            T.fault("cell 0 of " + p, Check.OUTSIDE, Twins::loom, x -> x.cell(p, 0));
            T.fault("weave " + p, Check.OUTSIDE, Twins::loom, x -> x.weave(0, p, 1));
            T.fault("weave with frame 2", Check.OUTSIDE, Twins::loom, x -> x.weave(2, p, 1));
        }
        for (int e : NO_END) {
            T.fault("cell " + e, Check.OUTSIDE, Twins::loom, x -> x.cell(0, e));
        }
    }

    private static void sizes() {
        for (int n : BELOW_0) {
            for (int lane = 0; lane < 5; lane++) {
                int l = lane;
                T.fault("thread " + n, Check.SIZE, Twins::loom, x -> x.thread(0, l, n));
                T.fault("thread a tied one", Check.SIZE, Twins::loom, x -> x.thread(1, l, n));
                T.fault("thread an unthreaded one", Check.SIZE, HandLoom::new, x -> x.thread(2, l, n));
            }
            T.fault("cloth of " + n + " picks", Check.SIZE, Twins::loom, x -> x.cloth(n, 24));
            T.fault("cloth of " + n + " cells", Check.SIZE, Twins::loom, x -> x.cloth(24, n));
            T.fault("cloth of no picks of " + n + " cells", Check.SIZE, Twins::loom, x -> x.cloth(0, n));
            T.fault("cloth of " + n + " picks of no cells", Check.SIZE, Twins::loom, x -> x.cloth(n, 0));
            T.fault("cloth of both " + n, Check.SIZE, Twins::loom, x -> x.cloth(n, n));
            T.fault("no cloth before", Check.SIZE, HandLoom::new, x -> x.cloth(n, 2));
        }
    }

    private static void empty() {
        Supplier<HandLoom> maker = RefusedTest::withoutThreads;
        for (int lane = 0; lane < 5; lane++) {
            int l = lane;
            T.fault("LAY, lane " + l, Check.EMPTY, maker, x -> x.act(Check.LAY, 0, l, 0, 1));
            T.fault("PULL, lane " + l, Check.EMPTY, maker, x -> x.act(Check.PULL, 0, l, 0, 1));
            T.fault("LAY, ahead of MISSING", Check.EMPTY, maker, x -> x.act(Check.LAY, 2, l, 0, 1));
            T.fault("LAY, ahead of OUTSIDE", Check.EMPTY, maker, x -> x.act(Check.LAY, 0, l, 3, 1));
        }
    }

    private static void zero() {
        for (int lane = 0; lane < 5; lane++) {
            int l = lane;
            if (l != Check.LIFT) {
                T.fault("PART by 0, lane " + l, Check.ZERO, Twins::loom, x -> x.act(Check.PART, 0, l, 1, 0));
                T.fault("PART 0 by 0, lane " + l, Check.ZERO, Twins::loom, x -> x.act(Check.PART, 0, l, 2, 0));
            }
        }
    }
}
