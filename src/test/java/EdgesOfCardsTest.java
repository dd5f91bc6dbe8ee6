/** The boundary cases that promises 14 to 18 name: card, unhook, keeper, run, told. */
public final class EdgesOfCardsTest {
    private static final Check C = new Check();
    private static final int MIN = Integer.MIN_VALUE;
    private static final int MAX = Integer.MAX_VALUE;

    public static void main(String[] args) {
        twelveCards();
        noSuchCard();
        unhookAll();
        keeperMasks();
        keeperRefuses();
        keeperFromNowOn();
        runOneToTwelve();
        runWithoutCards();
        runGoesRound();
        runPassesOver();
        runIsEnded();
        latestFault();
        latestFaultIsNoNone();
        latestFaultOfRun();
        faultsInAll();
        threadsAndCards();
        answersAddedUp();
        wovenToTheirEnds();
        anotherWhat();
        C.close();
    }

    private static void twelveCards() {
        C.sentence("14 card", "A CARD comes behind the others: how many there are. NONE: there are 12");
        HandLoom x = new HandLoom();
        x.thread(0, Check.YARN, 24);
        for (int k = 1; k <= 12; k++) {
            C.due("card " + k, x.card(Check.TURN, 0, Check.YARN, k, 0), k);
        }
        C.due("a 13th", x.card(Check.TURN, 0, Check.YARN, 13, 0), Check.NONE);
        C.due("there are 12", x.told(7), 12);
        C.due("run all", x.run(12), 12);
        for (int k = 0; k < 24; k++) {
            C.due("each once", Check.look(x, 0, Check.YARN, k), k >= 1 && k <= 12 ? 1 : 0);
        }
        x.unhook();
        C.due("room again", x.card(Check.TURN, 0, Check.YARN, 13, 0), 1);
    }

    private static void noSuchCard() {
        C.sentence("14 card", "NONE: the kind, frame or lane is none");
        int[] none = {-1, 5, MIN, MAX};
        HandLoom x = new HandLoom();
        for (int bad : none) {
            C.due("kind " + bad, x.card(bad, 0, 0, 0, 0), Check.NONE);
            C.due("frame", x.card(0, bad == 5 ? 4 : bad, 0, 0, 0), Check.NONE);
            C.due("lane " + bad, x.card(0, 0, bad, 0, 0), Check.NONE);
        }
        C.due("no card", x.told(7), 0);
        C.due("the least of each", x.card(0, 0, 0, MIN, MIN), 1);
        C.due("the most of each", x.card(4, 3, 4, MAX, MAX), 2);
        C.due("no fault: the lane is not looked at", Check.total(x), 0);
    }

    private static void unhookAll() {
        C.sentence("15 unhook", "All CARDS go: how many there were");
        for (int n = 0; n <= 12; n++) {
            HandLoom x = new HandLoom();
            for (int k = 0; k < n; k++) {
                x.card(0, 0, 0, 0, 0);
            }
            C.due("unhook " + n, x.unhook(), n);
            C.due("again", x.unhook(), 0);
            C.due("no cards", x.told(7), 0);
            C.due("none to run", x.run(1), Check.NONE);
        }
    }

    /** Whether the keeper passes over faults of this kind; SIZE can't be shown, no card has it. */
    private static boolean passesOver(HandLoom x, int fault) {
        x.unhook();
        x.thread(0, Check.YARN, 1);
        Check.hookFault(x, fault);
        return x.run(1) == 1;
    }

    private static void keeps(String what, HandLoom x, int mask) {
        int[] faults = {Check.MISSING, Check.OUTSIDE, Check.EMPTY, Check.ZERO};
        for (int fault : faults) {
            C.due(what + ", mask " + mask + ", fault " + fault, passesOver(x, fault), (mask >> fault & 1) == 1);
        }
    }

    private static void keeperMasks() {
        C.sentence("16 keeper", "The KEEPER passes over the FAULTS of kinds k for which bit k of mask is 1: true");
        for (int mask = 0; mask <= 62; mask += 2) {
            HandLoom x = new HandLoom();
            C.due("keeper(" + mask + ")", x.keeper(mask), true);
            keeps("new", x, mask);
            C.due("keeper(62 - " + mask + ")", x.keeper(62 - mask), true);
            keeps("instead", x, 62 - mask);
        }
    }

    private static void keeperRefuses() {
        C.sentence("16 keeper", "false, changing nothing, for others than bits 1 .. 5");
        int[] refused = {1, 3, 63, 64, 66, 126, 128, 256, 65536, 1 << 30, MAX, MIN, MIN + 2, -1, -2, -64, 1 << 6 | 62};
        int[] before = {0, 62, 1 << Check.OUTSIDE};
        for (int mask : refused) {
            for (int was : before) {
                HandLoom x = new HandLoom();
                x.keeper(was);
                C.due("keeper(" + mask + ")", x.keeper(mask), false);
                keeps("after " + mask, x, was);
            }
        }
    }

    private static void keeperFromNowOn() {
        C.sentence("16 keeper", "from now on");
        HandLoom x = new HandLoom();
        C.due("ahead of it", passesOver(x, Check.ZERO), false);
        C.due("the fault is told", x.told(0), Check.ZERO);
        x.keeper(1 << Check.ZERO);
        C.due("which stays so", x.told(0), Check.ZERO);
        C.due("behind it", passesOver(x, Check.ZERO), true);
        C.due("unhook leaves it", passesOver(x, Check.ZERO), true);
        x.act(Check.PART, 0, Check.YARN, 0, 0);
        C.due("act() has its fault all the same", x.told(0), Check.ZERO);
        x.keeper(0);
        C.due("till another one", passesOver(x, Check.ZERO), false);
    }

    private static void runOneToTwelve() {
        C.sentence("17 run", "n CARDS are done, 1 .. 12 (else NONE)");
        int[] none = {0, -1, 13, 14, 24, MIN, MAX};
        HandLoom x = new HandLoom();
        x.thread(0, Check.YARN, 1);
        x.card(Check.TURN, 0, Check.YARN, 0, 0);
        for (int n : none) {
            C.due("run(" + n + ")", x.run(n), Check.NONE);
            C.due("none was done", Check.look(x, 0, Check.YARN, 0), 0);
        }
        int sum = 0;
        for (int n = 1; n <= 12; n++) {
            C.due("run(" + n + ")", x.run(n), n);
            sum += n;
            C.due("as many were done", Check.look(x, 0, Check.YARN, 0), sum);
        }
    }

    private static void runWithoutCards() {
        C.sentence("17 run", "(else NONE, also if there are no CARDS)");
        HandLoom x = new HandLoom();
        for (int n = -1; n <= 13; n++) {
            C.due("run(" + n + ")", x.run(n), Check.NONE);
        }
        C.due("no fault", Check.total(x), 0);
    }

    /** Card k lays what is drawn at end k: what was drawn as the how-manieth shows which card came when. */
    private static void runGoesRound() {
        C.sentence("17 run", "from the first one on (behind the last one the first one again)");
        for (int cards = 1; cards <= 12; cards++) {
            for (int n = 1; n <= 12; n++) {
                HandLoom x = new HandLoom();
                x.thread(0, Check.YARN, 12);
                for (int k = 0; k < cards; k++) {
                    x.card(Check.LAY, 0, Check.YARN, k, 0);
                }
                for (int v = 1; v <= 16; v++) {
                    x.spool(v);
                }
                C.due(cards + " cards, run(" + n + ")", x.run(n), n);
                C.due("as many were drawn", x.told(6), 16 - n);
                for (int k = 0; k < 12; k++) {
                    int latest = k < cards && k < n ? k + 1 + (n - 1 - k) / cards * cards : 0;
                    C.due(cards + " cards, run(" + n + "), end " + k, Check.look(x, 0, Check.YARN, k), latest);
                }
                C.due("a second run", x.run(1), 1);
                C.due("begins with the first one", Check.look(x, 0, Check.YARN, 0), n + 1);
            }
        }
    }

    private static void runPassesOver() {
        C.sentence("17 run", "One with a FAULT that the KEEPER passes over counts as done");
        HandLoom x = new HandLoom();
        x.thread(0, Check.DYE, 1);
        x.keeper(62);
        x.card(Check.TURN, 1, Check.DYE, 0, 0);
        x.card(Check.TURN, 0, Check.DYE, 1, 0);
        x.card(Check.LAY, 0, Check.DYE, 0, 0);
        x.card(Check.PART, 0, Check.DYE, 0, 0);
        C.due("nothing but faults", x.run(4), 4);
        C.due("three rounds", x.run(12), 12);
        for (int k = 1; k <= 5; k++) {
            C.due("fault " + k, x.told(k), k == Check.SIZE ? 0 : 4);
        }
        C.due("nothing changed", Check.look(x, 0, Check.DYE, 0), 0);
        x.card(Check.TURN, 0, Check.DYE, 0, 0);
        C.due("goes on behind them", x.run(5), 5);
        C.due("done", Check.look(x, 0, Check.DYE, 0), 1);
    }

    private static void runIsEnded() {
        C.sentence("17 run", "another one ends it. How many were done.");
        for (int at = 0; at < 12; at++) {
            HandLoom x = new HandLoom();
            x.thread(0, Check.YARN, 1);
            x.keeper(62 - (1 << Check.OUTSIDE));
            for (int k = 0; k < 12; k++) {
                x.card(Check.TURN, 0, Check.YARN, k == at ? 1 : 0, 0);
            }
            C.due("the fault is at " + at, x.run(12), at);
            C.due("those ahead are done, none behind", Check.look(x, 0, Check.YARN, 0), at);
            C.due("told once", x.told(Check.OUTSIDE), 1);
            if (at > 0) {
                C.due("not reached", x.run(at), at);
                C.due("no fault", x.told(0), 0);
            }
        }
        HandLoom y = new HandLoom();
        y.thread(0, Check.YARN, 2);
        y.card(Check.PULL, 0, Check.YARN, 0, 0);
        y.card(Check.TURN, 0, Check.YARN, 1, 0);
        y.spool(5);
        y.spool(6);
        C.due("in the third round", y.run(12), 4);
        C.due("for EMPTY", y.told(0), Check.EMPTY);
        C.due("5 + 6", Check.look(y, 0, Check.YARN, 0), 11);
        C.due("turned twice", Check.look(y, 0, Check.YARN, 1), 2);
    }

    /** A loom on which each of the eleven calls can be done without a fault; its latest call had SIZE. */
    private static HandLoom failed() {
        HandLoom x = new HandLoom();
        x.thread(0, Check.YARN, 2);
        x.thread(0, Check.LIFT, 2);
        x.thread(0, Check.LENGTH, 2);
        x.cloth(2, 2);
        x.card(Check.TURN, 0, Check.YARN, 0, 0);
        x.thread(0, Check.YARN, -1);
        C.due("SIZE", x.told(0), Check.SIZE);
        return x;
    }

    private static int toldCall(HandLoom x, int call) {
        return switch (call) {
            case 0 -> x.thread(0, 0, 1);
            case 1 -> x.tie(1, 0, 0);
            case 2 -> x.ends(0, 0);
            case 3 -> x.act(Check.TURN, 0, 0, 0, 0);
            case 4 -> x.swap(0, 0, 0, 1);
            case 5 -> x.cloth(1, 1);
            case 6 -> x.snip(0);
            case 7 -> x.hang(0, 1);
            case 8 -> x.cell(1, 1);
            case 9 -> x.weave(0, 0, 1);
            default -> x.run(1);
        };
    }

    private static void latestFault() {
        C.sentence("18 told", "What 0: the FAULT of the latest of the eleven calls (0 without one, or before)");
        C.due("before", new HandLoom().told(0), 0);
        for (int call = 0; call < 11; call++) {
            HandLoom x = failed();
            toldCall(x, call);
            C.due("call " + call + " without a fault", x.told(0), 0);
            C.due("which is none of kind 0", Check.total(x), 1);
        }
        HandLoom y = failed();
        y.cut(0, Check.YARN);
        y.spool(1);
        y.card(0, 0, 0, 0, 0);
        y.keeper(2);
        y.keeper(0);
        y.unhook();
        y.told(0);
        y.told(3);
        C.due("cut, spool, card, keeper, unhook and told are not among them", y.told(0), Check.SIZE);
    }

    private static void latestFaultIsNoNone() {
        C.sentence("18 told", "that was no NONE");
        for (int call = 0; call < 8; call++) {
            HandLoom x = failed();
            C.due("call " + call, noneCall(x, call), Check.NONE);
            C.due("the fault stays", x.told(0), Check.SIZE);
            x.ends(0, Check.YARN);
            noneCall(x, call);
            C.due("no fault stays, too", x.told(0), 0);
        }
        HandLoom y = failed();
        C.due("a weft that looks as NONE", y.weave(0, 0, Check.NONE), 2);
        y.thread(0, Check.YARN, -1);
        C.due("a cell that has it", y.cell(0, 1), Check.NONE);
        C.due("is no NONE", y.told(0), 0);
    }

    private static int noneCall(HandLoom x, int call) {
        return switch (call) {
            case 0 -> x.thread(0, 0, 25);
            case 1 -> x.tie(1, 0, 4);
            case 2 -> x.ends(0, 5);
            case 3 -> x.act(5, 0, 0, 0, 0);
            case 4 -> x.swap(-1, 0, 0, 1);
            case 5 -> x.cloth(-1, 25);
            case 6 -> x.weave(4, 0, 1);
            default -> x.run(13);
        };
    }

    private static void latestFaultOfRun() {
        C.sentence("18 told", "of run() that which ended it");
        HandLoom x = new HandLoom();
        x.thread(0, Check.YARN, 1);
        x.keeper(1 << Check.OUTSIDE);
        x.card(Check.TURN, 0, Check.YARN, 1, 0);
        x.run(1);
        C.due("passed over, the last one", x.told(0), 0);
        x.card(Check.PART, 0, Check.YARN, 0, 0);
        C.due("ended", x.run(12), 1);
        C.due("by ZERO", x.told(0), Check.ZERO);
        x.run(1);
        C.due("not ended", x.told(0), 0);
    }

    private static void faultsInAll() {
        C.sentence("18 told", "1 .. 5: how many FAULTS of that kind there were in all (those passed over, too)");
        HandLoom x = new HandLoom();
        x.thread(0, Check.YARN, 1);
        int[] due = new int[6];
        x.keeper(62);
        for (int round = 0; round < 5; round++) {
            for (int fault = 1; fault <= 5; fault++) {
                if (fault == Check.SIZE) {
                    x.cloth(0, -1);
                    due[fault]++;
                } else {
                    passesOver(x, fault);
                    x.run(2 + fault);
                    due[fault] += 3 + fault;
                }
                for (int k = 1; k <= 5; k++) {
                    C.due("told(" + k + ")", x.told(k), due[k]);
                }
            }
        }
        x.keeper(0);
        passesOver(x, Check.EMPTY);
        C.due("one that ended it counts once", x.told(Check.EMPTY), due[Check.EMPTY] + 1);
        x.weave(0, 0, 0);
        C.due("of weave", x.told(Check.MISSING), due[Check.MISSING] + 1);
    }

    private static void threadsAndCards() {
        C.sentence("18 told", "6: THREADS on the SPOOL; 7: CARDS");
        HandLoom x = new HandLoom();
        for (int k = 1; k <= 18; k++) {
            x.spool(k);
            C.due("threads", x.told(6), Math.min(k, 16));
            x.card(0, 0, 0, 0, 0);
            C.due("cards", x.told(7), Math.min(k, 12));
        }
        x.act(Check.LAY, 0, 0, 0, 0);
        C.due("one was drawn", x.told(6), 15);
        x.run(12);
        C.due("cards stay when they are run", x.told(7), 12);
        x.unhook();
        C.due("none", x.told(7), 0);
        C.due("the threads stay", x.told(6), 15);
    }

    private static void answersAddedUp() {
        C.sentence("18 told", "8: what the ACTS of the latest run() that was no NONE answered, added up (0 before)");
        HandLoom x = new HandLoom();
        C.due("before", x.told(8), 0);
        x.thread(0, Check.YARN, 1);
        Check.lay(x, 0, Check.YARN, 0, 65535);
        x.card(Check.LOOK, 0, Check.YARN, 0, 0);
        C.due("before, with a card", x.told(8), 0);
        x.run(12);
        C.due("the most", x.told(8), 786420);
        x.run(0);
        x.run(13);
        C.due("NONE leaves it", x.told(8), 786420);
        x.run(1);
        C.due("the latest alone", x.told(8), 65535);
        x.card(Check.LOOK, 0, Check.YARN, 1, 0);
        x.run(2);
        C.due("what ended it answered 0", x.told(8), 65535);
        x.keeper(1 << Check.OUTSIDE);
        x.run(3);
        C.due("what was passed over, too", x.told(8), 131070);
        x.unhook();
        C.due("no cards", x.run(1), Check.NONE);
        C.due("leaves it", x.told(8), 131070);
        x.card(Check.LOOK, 1, Check.YARN, 1, 0);
        x.run(1);
        C.due("ended at once", x.told(8), 0);
        lowestAnswers();
    }

    private static void lowestAnswers() {
        HandLoom x = new HandLoom();
        x.thread(3, Check.TENSION, 1);
        Check.lay(x, 3, Check.TENSION, 0, MIN);
        x.card(Check.LOOK, 3, Check.TENSION, 0, 0);
        x.run(12);
        C.due("the least", x.told(8), -393216);
    }

    private static void wovenToTheirEnds() {
        C.sentence("18 told", "9: how many PICKS were woven to their ends");
        HandLoom x = new HandLoom();
        x.thread(0, Check.LIFT, 2);
        x.thread(0, Check.LENGTH, 2);
        x.cloth(3, 2);
        C.due("before", x.told(9), 0);
        x.weave(0, 0, 1);
        x.weave(0, 0, 1);
        C.due("the same one twice", x.told(9), 2);
        x.weave(0, 3, 1);
        x.snip(2);
        x.weave(0, 2, 1);
        x.weave(4, 0, 1);
        C.due("no pick, a snipped one, no frame", x.told(9), 2);
        x.thread(0, Check.LENGTH, 1);
        x.weave(0, 1, 1);
        C.due("all but the last cell", x.told(9), 2);
        x.cloth(1, 1);
        x.weave(0, 0, 1);
        C.due("the only cell", x.told(9), 3);
        x.cloth(1, 0);
        x.weave(0, 0, 1);
        C.due("its end is its beginning", x.told(9), 4);
    }

    private static void anotherWhat() {
        C.sentence("18 told", "NONE for another what");
        int[] none = {-1, 10, 11, 16, 256, MIN, MAX};
        HandLoom x = failed();
        for (int what : none) {
            C.due("told(" + what + ")", x.told(what), Check.NONE);
        }
        C.due("nothing happened", x.told(0), Check.SIZE);
        for (int what = 0; what <= 9; what++) {
            C.due("told(" + what + ") is something", x.told(what) != Check.NONE, true);
        }
    }
}
