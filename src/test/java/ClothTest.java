/** Promises 9 cloth, 10 snip, 11 hang and 12 cell. */
public final class ClothTest {
    private static final Check C = new Check();

    public static void main(String[] args) {
        noCloth();
        newCloth();
        sizes();
        snipping();
        hanging();
        hangingAnew();
        cells();
        C.close();
    }

    /** A loom whose frame 0 has all lifts down, so that weave() shows the weft in every cell. */
    private static HandLoom weftLoom() {
        HandLoom x = new HandLoom();
        x.thread(0, Check.LIFT, 24);
        x.thread(0, Check.LENGTH, 24);
        return x;
    }

    private static void noCloth() {
        HandLoom x = new HandLoom();
        C.fault("snip", x, 0, x.snip(-1), Check.MISSING);
        C.fault("hang", x, 1, x.hang(-1, 99), Check.MISSING);
        C.fault("cell", x, 2, x.cell(-1, -1), Check.MISSING);
        C.fault("weave", x, 3, x.weave(0, -1, 5), Check.MISSING);
        C.none("weave with no frame", x, Check.MISSING, 4, x.weave(4, 0, 5));
    }

    private static void newCloth() {
        HandLoom x = weftLoom();
        x.ends(3, 0);
        C.due("cloth", x.cloth(24, 24), 576);
        C.due("no fault", x.told(0), 0);
        for (int p = 0; p < 24; p++) {
            C.due("woven", x.weave(0, p, 100 + p), 24);
        }
        for (int p = 0; p < 24; p++) {
            C.due("its own cells", x.cell(p, 0) + x.cell(p, 23), 200 + 2 * p);
        }
        x.snip(3);
        x.hang(4, 5);
        C.due("new cloth", x.cloth(24, 24), 576);
        for (int p = 0; p < 24; p++) {
            C.due("all 0", x.cell(p, 0) | x.cell(p, 11) | x.cell(p, 23), 0);
        }
        C.due("every pick is there again", x.snip(3), 1);
        x.weave(0, 4, 9);
        C.due("and on its own", x.cell(5, 0), 0);
        C.due("smaller", x.cloth(2, 3), 6);
        C.due("its last cell", x.cell(1, 2), 0);
        C.due("is there", x.told(0), 0);
        C.fault("no further cell", x, 0, x.cell(1, 3), Check.OUTSIDE);
        C.fault("no further pick", x, 1, x.cell(2, 0), Check.OUTSIDE);
    }

    private static void sizes() {
        HandLoom x = weftLoom();
        C.due("3 of 4", x.cloth(3, 4), 12);
        x.weave(0, 2, 8);
        x.snip(1);
        x.ends(3, 0);
        int[] above = {25, 26, Integer.MAX_VALUE};
        for (int a : above) {
            C.none("picks above 24", x, Check.MISSING, 1, x.cloth(a, 2));
            C.none("cells above 24", x, Check.MISSING, 1, x.cloth(2, a));
            C.none("both", x, Check.MISSING, 1, x.cloth(a, a));
            C.none("ahead of SIZE", x, Check.MISSING, 1, x.cloth(a, -1));
            C.none("ahead of SIZE, cells", x, Check.MISSING, 1, x.cloth(-1, a));
        }
        C.fault("picks below 0", x, 0, x.cloth(-1, 2), Check.SIZE);
        C.fault("cells below 0", x, 1, x.cloth(2, -1), Check.SIZE);
        C.fault("both below 0", x, 2, x.cloth(Integer.MIN_VALUE, Integer.MIN_VALUE), Check.SIZE);
        C.due("the cloth stays", x.cell(2, 3), 8);
        C.fault("as it was", x, 1, x.cell(1, 0), Check.MISSING);
        C.due("no picks", x.cloth(0, 5), 0);
        C.due("no fault", x.told(0), 0);
        C.fault("is cloth all the same", x, 0, x.snip(0), Check.OUTSIDE);
        C.due("no cells", x.cloth(5, 0), 0);
        C.fault("no cell 0", x, 1, x.cell(4, 0), Check.OUTSIDE);
        C.due("hang without cells", x.hang(0, 1), 0);
        C.due("snip without cells", x.snip(0), 1);
        C.due("neither", x.cloth(0, 0), 0);
        HandLoom none = new HandLoom();
        none.cloth(-1, 3);
        C.fault("no cloth from SIZE", none, 0, none.snip(0), Check.MISSING);
        none.cloth(25, 3);
        C.fault("nor from NONE", none, 1, none.snip(0), Check.MISSING);
    }

    private static void snipping() {
        HandLoom x = weftLoom();
        x.cloth(3, 2);
        int[] outside = {-1, 3, 24, Integer.MIN_VALUE, Integer.MAX_VALUE};
        for (int k = 0; k < outside.length; k++) {
            C.fault("snip", x, k, x.snip(outside[k]), Check.OUTSIDE);
        }
        C.due("snip", x.snip(2), 1);
        C.due("no fault", x.told(0), 0);
        C.due("snip again", x.snip(2), 0);
        C.due("no fault", x.told(0), 0);
        C.fault("its cells are MISSING", x, 0, x.cell(2, 0), Check.MISSING);
        C.fault("ahead of OUTSIDE", x, 1, x.cell(2, 9), Check.MISSING);
        C.fault("it can't be woven", x, 2, x.weave(0, 2, 1), Check.MISSING);
        C.due("the others are there", x.weave(0, 1, 4), 2);
        C.due("woven", x.cell(1, 1), 4);
    }

    private static void hanging() {
        HandLoom x = weftLoom();
        x.cloth(4, 3);
        int[] outside = {-1, 4, Integer.MIN_VALUE, Integer.MAX_VALUE};
        for (int k = 0; k < outside.length; k++) {
            C.fault("hang to none", x, 3 * k, x.hang(0, outside[k]), Check.OUTSIDE);
            C.fault("hang none", x, 3 * k + 1, x.hang(outside[k], 0), Check.OUTSIDE);
            C.fault("both", x, 3 * k + 2, x.hang(outside[k], outside[k]), Check.OUTSIDE);
        }
        x.weave(0, 1, 11);
        C.due("hang", x.hang(0, 1), 3);
        C.due("no fault", x.told(0), 0);
        C.due("it is the same", x.cell(0, 2), 11);
        x.weave(0, 0, 12);
        C.due("from now on", x.cell(1, 2), 12);
        x.weave(0, 1, 13);
        C.due("both ways", x.cell(0, 0), 13);
        C.due("a third", x.hang(2, 0), 3);
        C.due("snip the one that was hung to", x.snip(1), 1);
        x.weave(0, 2, 14);
        C.due("the others stay the same", x.cell(0, 1), 14);
        C.due("hang to one that is none", x.hang(0, 1), 0);
        C.due("no fault", x.told(0), 0);
        C.fault("it is none", x, 0, x.cell(0, 0), Check.MISSING);
        C.due("the last one is there", x.cell(2, 0), 14);
        C.due("with itself", x.hang(2, 2), 3);
        C.due("as it was", x.cell(2, 0), 14);
        C.due("none with itself", x.hang(0, 0), 0);
        C.due("snip none", x.snip(0), 0);
        C.due("a snipped one may be hung again", x.hang(1, 2), 3);
        C.due("and is there", x.cell(1, 2), 14);
    }

    private static void hangingAnew() {
        HandLoom x = weftLoom();
        x.cloth(3, 2);
        x.hang(0, 1);
        x.weave(0, 2, 7);
        C.due("hung anew", x.hang(0, 2), 2);
        x.weave(0, 0, 8);
        C.due("with the new one", x.cell(2, 1), 8);
        C.due("no more with the old one", x.cell(1, 1), 0);
        C.due("the old place hangs on the other", x.hang(1, 0), 2);
        x.weave(0, 1, 9);
        C.due("all are one now", x.cell(0, 0) + x.cell(2, 0), 18);
    }

    private static void cells() {
        HandLoom x = weftLoom();
        x.cloth(2, 3);
        x.weave(0, 0, Integer.MIN_VALUE);
        x.ends(3, 0);
        C.due("a cell may hold what NONE is", x.cell(0, 0), Integer.MIN_VALUE);
        C.due("which is no NONE", x.told(0), 0);
        int[] noPick = {-1, 2, Integer.MIN_VALUE, Integer.MAX_VALUE};
        int[] noCell = {-1, 3, Integer.MIN_VALUE, Integer.MAX_VALUE};
        for (int k = 0; k < noPick.length; k++) {
            C.fault("no such pick", x, 3 * k, x.cell(noPick[k], 0), Check.OUTSIDE);
            C.fault("no such cell", x, 3 * k + 1, x.cell(0, noCell[k]), Check.OUTSIDE);
            C.fault("neither", x, 3 * k + 2, x.cell(noPick[k], noCell[k]), Check.OUTSIDE);
        }
    }
}
