import java.util.ArrayList;
import java.util.List;
import java.util.function.Supplier;
import java.util.function.ToIntFunction;

/**
 * Shows that a refused call changes nothing: two looms are made alike, one of them gets the call, and a long probe of
 * both must answer the same. Making, call and probe together stay well below 512 calls.
 */
final class Twins {
    private final Check check;

    Twins(Check check) {
        this.check = check;
    }

    /** The call must answer NONE: nothing happens, and there is no fault. */
    void none(String what, Supplier<HandLoom> maker, ToIntFunction<HandLoom> call) {
        HandLoom refused = maker.get();
        check.due(what, call.applyAsInt(refused), Check.NONE);
        check.same(what, probe(refused), probe(maker.get()));
    }

    /** The call must have the fault: it answers 0 and changes nothing, but where the fault is told. */
    void fault(String what, int fault, Supplier<HandLoom> maker, ToIntFunction<HandLoom> call) {
        HandLoom refused = maker.get();
        check.due(what, call.applyAsInt(refused), 0);
        HandLoom other = maker.get();
        check.due(what + ": told(0)", refused.told(0), fault);
        for (int k = 1; k <= 5; k++) {
            check.due(what + ": told(" + k + ")", refused.told(k), other.told(k) + (k == fault ? 1 : 0));
        }
        check.same(what, probeWithoutFaults(refused), probeWithoutFaults(other));
    }

    /**
     * Something of everything: frame 0 is threaded (3 ends each), 1 is tied with it but has a LIFT of its own, 2 has
     * only a DYE without ends, 3 only a LENGTH of 24; three threads; cloth of 4 picks of 3 cells, 1 snipped, 3 hung
     * on 0; five cards; MISSING is passed over; there has been a run, a pick was woven, and the latest fault is ZERO.
     */
    static HandLoom loom() {
        HandLoom x = new HandLoom();
        for (int lane = 0; lane < 5; lane++) {
            x.thread(0, lane, 3);
            Check.lay(x, 0, lane, 0, 101);
            Check.lay(x, 0, lane, 1, -55);
            x.tie(1, lane, 0);
        }
        x.thread(1, Check.LIFT, 2);
        x.thread(2, Check.DYE, 0);
        x.thread(3, Check.LENGTH, 24);
        x.cloth(4, 3);
        x.snip(1);
        x.hang(3, 0);
        x.card(Check.TURN, 0, Check.DYE, 0, 9);
        x.card(Check.PART, 0, Check.YARN, 1, 2);
        x.card(Check.LOOK, 2, Check.YARN, 0, 9);
        x.card(Check.PULL, 0, Check.LENGTH, 1, 9);
        x.card(Check.PART, 0, Check.TENSION, 0, 0);
        x.keeper(1 << Check.MISSING);
        x.spool(70003);
        x.run(5);
        x.weave(0, 2, 600);
        x.weave(0, 0, -600);
        x.spool(31);
        x.spool(-32);
        x.spool(1000033);
        x.act(Check.PART, 0, Check.DYE, 1, 0);
        return x;
    }

    /** As loom(), with all 16 threads and all 12 cards. */
    static HandLoom crowded() {
        HandLoom x = loom();
        for (int k = 0; k < 13; k++) {
            x.spool(2000 + k);
        }
        for (int k = 0; k < 7; k++) {
            x.card(Check.TURN, 3, Check.LENGTH, k, 0);
        }
        return x;
    }

    private static List<String> probe(HandLoom x) {
        List<String> seen = new ArrayList<>();
        for (int k = 0; k <= 5; k++) {
            seen.add("told(" + k + ") = " + x.told(k));
        }
        seen.addAll(probeWithoutFaults(x));
        return seen;
    }

    private static List<String> probeWithoutFaults(HandLoom x) {
        List<String> seen = new ArrayList<>();
        probeCounts(x, seen);
        probeLanes(x, seen);
        probeCells(x, seen);
        probeTies(x, seen);
        seen.add("weave(0, 0, 77) = " + x.weave(0, 0, 77));
        seen.add("weave(1, 2, 78) = " + x.weave(1, 2, 78));
        probeCells(x, seen);
        seen.add("run(12) = " + x.run(12) + ", told(0) = " + x.told(0));
        probeCounts(x, seen);
        x.thread(2, Check.LENGTH, 1);
        for (int k = 0; k < 17; k++) {
            seen.add("thread " + k + " = " + x.act(Check.LAY, 2, Check.LENGTH, 0, 0) + ", told(0) = " + x.told(0));
        }
        seen.add("unhook() = " + x.unhook());
        return seen;
    }

    private static void probeCounts(HandLoom x, List<String> seen) {
        for (int k = 6; k <= 9; k++) {
            seen.add("told(" + k + ") = " + x.told(k));
        }
    }

    private static void probeLanes(HandLoom x, List<String> seen) {
        for (int frame = 0; frame < 4; frame++) {
            for (int lane = 0; lane < 5; lane++) {
                String at = "(" + frame + ", " + lane + ")";
                seen.add("ends" + at + " = " + x.ends(frame, lane) + ", told(0) = " + x.told(0));
                for (int i = 0; i < 3; i++) {
                    seen.add("end " + i + " of " + at + " = " + Check.look(x, frame, lane, i));
                }
            }
        }
    }

    private static void probeCells(HandLoom x, List<String> seen) {
        for (int p = 0; p < 4; p++) {
            for (int e = 0; e < 3; e++) {
                seen.add("cell(" + p + ", " + e + ") = " + x.cell(p, e));
            }
            seen.add("pick " + p + ": told(0) = " + x.told(0));
        }
    }

    /** Turns an end of frame 0: frames that are tied with it show that. */
    private static void probeTies(HandLoom x, List<String> seen) {
        for (int lane = 0; lane < 5; lane++) {
            x.act(Check.TURN, 0, lane, 2, 0);
            for (int frame = 0; frame < 4; frame++) {
                seen.add("turned, of frame " + frame + ", lane " + lane + " = " + Check.look(x, frame, lane, 2));
            }
        }
    }
}
