import java.util.Random;

/** Many runs of 512 calls, told() among them, the same on HandLoom and on Model: every answer agrees. */
public final class ModelTest {
    private static final int RUNS = 8000;
    private static final int CALLS = 512;
    private static final int[] EDGES = {0, 1, -1, 2, 3, -3, 7, 8, 127, 128, -128, -129, 255, 256, 1000, 1023, 1024, 32000,
        32767, 32768, -32768, -32769, 65535, 65536, 70000, 1000000, 16777215, 16777217, 16777219, 33554431, -33554433,
        Integer.MAX_VALUE, Integer.MIN_VALUE};

    private static final Check C = new Check();
    private final Random random;
    private final HandLoom x = new HandLoom();
    private final Model y = new Model();
    /** How often an argument is wrong on purpose, of 100. */
    private final int wrongness;
    private final int mostEnds;
    private final int fewFrames;

    private ModelTest(long seed) {
        random = new Random(seed);
        wrongness = new int[] {0, 2, 10, 40}[random.nextInt(4)];
        mostEnds = 1 + random.nextInt(24);
        fewFrames = 1 + random.nextInt(4);
    }

    public static void main(String[] args) {
        for (int seed = 0; seed < RUNS; seed++) {
            new ModelTest(seed).play(seed);
        }
        C.close();
    }

    private void play(int seed) {
        boolean same = true;
        for (int k = 0; k < CALLS && same; k++) {
            String what = "run " + seed + ", call " + k;
            same = k % 3 == 2 ? told(what) : oneCall(what);
        }
    }

    private boolean told(String what) {
        int t = random.nextInt(3) == 0 ? 0 : random.nextInt(12) - 1;
        int got = x.told(t);
        int want = y.told(t);
        C.due(what + ": told(" + t + ")", got, want);
        return got == want;
    }

    private boolean isWrong() {
        return random.nextInt(100) < wrongness;
    }

    private int number() {
        int kind = random.nextInt(4);
        if (kind == 0) {
            return EDGES[random.nextInt(EDGES.length)];
        }
        return kind == 1 ? random.nextInt() : kind == 2 ? random.nextInt(70000) - 35000 : random.nextInt(41) - 20;
    }

    private int below(int bound) {
        return isWrong() ? random.nextInt(5) == 0 ? number() : random.nextBoolean() ? -1 : bound : random.nextInt(bound);
    }

    private int frame() {
        return isWrong() ? below(4) : random.nextInt(fewFrames);
    }

    private boolean oneCall(String what) {
        int call = random.nextInt(26);
        int f = frame();
        int l = below(5);
        int i = below(mostEnds);
        int j = below(mostEnds);
        int v = number();
        int k = below(5);
        int p = below(random.nextInt(4) == 0 ? 24 : 4);
        int q = below(4);
        int other = frame();
        int size = isWrong() ? number() : random.nextInt(3) == 0 ? mostEnds : random.nextInt(mostEnds + 1);
        String with = what + " (" + call + "; " + f + ", " + l + ", " + i + ", " + j + ", " + v + ", " + k + ", " + p
            + ", " + q + ", " + other + ", " + size + ")";
        long got;
        long want;
        switch (call) {
            case 0, 1, 2 -> { got = x.thread(f, l, size); want = y.thread(f, l, size); }
            case 3 -> { got = x.cut(f, l); want = y.cut(f, l); }
            case 4 -> { got = x.tie(f, l, other); want = y.tie(f, l, other); }
            case 5 -> { got = x.ends(f, l); want = y.ends(f, l); }
            case 6, 7, 8, 9 -> { got = x.spool(v); want = y.spool(v); }
            case 10, 11, 12, 13, 14 -> { got = x.act(k, f, l, i, v); want = y.act(k, f, l, i, v); }
            case 15 -> { got = x.swap(f, l, i, j); want = y.swap(f, l, i, j); }
            case 16 -> { got = x.cloth(p, size); want = y.cloth(p, size); }
            case 17 -> { got = x.snip(p); want = y.snip(p); }
            case 18 -> { got = x.hang(p, q); want = y.hang(p, q); }
            case 19 -> { got = x.cell(p, i); want = y.cell(p, i); }
            case 20, 21 -> { got = x.weave(f, p, v); want = y.weave(f, p, v); }
            case 22 -> { got = x.card(k, f, l, i, v); want = y.card(k, f, l, i, v); }
            case 23 -> {
                boolean few = random.nextInt(4) == 0;
                got = few ? x.unhook() : x.card(k, f, l, j, v);
                want = few ? y.unhook() : y.card(k, f, l, j, v);
            }
            case 24 -> {
                int mask = isWrong() ? v : random.nextInt(32) * 2;
                got = x.keeper(mask) ? 1 : 0;
                want = y.keeper(mask) ? 1 : 0;
            }
            default -> {
                int n = isWrong() ? v : 1 + random.nextInt(12);
                got = x.run(n);
                want = y.run(n);
            }
        }
        C.due(with, got, want);
        return got == want;
    }
}
