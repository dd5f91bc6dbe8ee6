/** Promise 1: a new object; and that objects do not share anything. */
public final class NewLoomTest {
    public static void main(String[] args) {
        Check c = new Check();
        c.due("NONE", HandLoom.NONE, -2147483648L);
        fresh(c, new HandLoom());
        HandLoom used = new HandLoom();
        useIt(used);
        fresh(c, new HandLoom());
        c.due("the used one keeps its thread", used.told(6), 1);
        c.close();
    }

    private static void useIt(HandLoom x) {
        for (int frame = 0; frame < 4; frame++) {
            for (int lane = 0; lane < 5; lane++) {
                x.thread(frame, lane, 24);
            }
        }
        x.cloth(24, 24);
        x.spool(1);
        x.card(0, 0, 0, 0, 0);
        x.keeper(62);
        x.run(1);
        x.weave(0, 0, 7);
        x.thread(0, 0, -1);
    }

    private static void fresh(Check c, HandLoom x) {
        for (int what = 0; what <= 9; what++) {
            c.due("new: told(" + what + ")", x.told(what), 0);
        }
        c.due("new: no cards to run", x.run(1), Check.NONE);
        c.due("new: unhook", x.unhook(), 0);
        for (int frame = 0; frame < 4; frame++) {
            for (int lane = 0; lane < 5; lane++) {
                c.due("new: cut", x.cut(frame, lane), 0);
                c.fault("new: ends", x, frame * 5 + lane, x.ends(frame, lane), Check.MISSING);
            }
        }
        c.fault("new: no cloth", x, 20, x.snip(0), Check.MISSING);
        c.fault("new: no threads", x, 0, x.act(Check.LAY, 0, 0, 0, 0), Check.EMPTY);
        x.card(Check.LOOK, 0, 0, 0, 0);
        c.due("new: the keeper passes over nothing", x.run(1), 0);
        x.thread(0, 0, 1);
        x.unhook();
        x.card(Check.LOOK, 0, 0, 1, 0);
        c.due("new: nor over OUTSIDE", x.run(1), 0);
        x.unhook();
        x.card(Check.PULL, 0, 0, 0, 0);
        c.due("new: nor over EMPTY", x.run(1), 0);
        x.unhook();
        x.card(Check.PART, 0, 0, 0, 0);
        c.due("new: nor over ZERO", x.run(1), 0);
    }
}
