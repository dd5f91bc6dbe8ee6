import java.math.BigDecimal;
import java.util.ArrayDeque;
import java.util.ArrayList;
import java.util.List;

/**
 * A second reading of the document, for ModelTest: lanes and picks are Java arrays that frames and cloth share, and
 * faults are what Java throws on them. Nothing of its structure is the program's.
 */
final class Model {
    private static final int NONE = -2147483648;

    private static final class Fault extends RuntimeException {
        private static final long serialVersionUID = 1L;
        final int kind;

        Fault(int kind) {
            this.kind = kind;
        }
    }

    private interface Body {
        int call();
    }

    private final char[][] yarn = new char[4][];
    private final short[][] length = new short[4][];
    private final float[][] tension = new float[4][];
    private final boolean[][] lift = new boolean[4][];
    private final byte[][] dye = new byte[4][];
    private final ArrayDeque<Integer> threads = new ArrayDeque<>();
    private final List<int[]> cards = new ArrayList<>();
    private final int[] told = new int[10];
    private int[][] cloth = null;
    private int mask = 0;

    private int guarded(Body body) {
        told[0] = 0;
        try {
            return body.call();
        } catch (NullPointerException e) {
            return told(new Fault(1));
        } catch (ArrayIndexOutOfBoundsException e) {
            return told(new Fault(2));
        } catch (NegativeArraySizeException e) {
            return told(new Fault(3));
        } catch (ArithmeticException e) {
            return told(new Fault(5));
        } catch (Fault f) {
            return told(f);
        }
    }

    private int told(Fault f) {
        told[0] = f.kind;
        told[f.kind]++;
        return 0;
    }

    private static boolean bad(int frame, int lane) {
        return frame < 0 || frame > 3 || lane < 0 || lane > 4;
    }

    private Object[] column(int lane) {
        return switch (lane) {
            case 0 -> yarn;
            case 1 -> length;
            case 2 -> tension;
            case 3 -> lift;
            default -> dye;
        };
    }

    private static Object row(int lane, int n) {
        return switch (lane) {
            case 0 -> new char[n];
            case 1 -> new short[n];
            case 2 -> new float[n];
            case 3 -> new boolean[n];
            default -> new byte[n];
        };
    }

    private int count(int frame, int lane) {
        return switch (lane) {
            case 0 -> yarn[frame].length;
            case 1 -> length[frame].length;
            case 2 -> tension[frame].length;
            case 3 -> lift[frame].length;
            default -> dye[frame].length;
        };
    }

    private int tells(int f, int lane, int i) {
        return switch (lane) {
            case 0 -> yarn[f][i];
            case 1 -> length[f][i];
            case 2 -> new BigDecimal(tension[f][i]).multiply(new BigDecimal(8)).intValue();
            case 3 -> lift[f][i] ? 1 : 0;
            default -> dye[f][i];
        };
    }

    int thread(int frame, int lane, int n) {
        if (bad(frame, lane) || n > 24) {
            return NONE;
        }
        return guarded(() -> {
            column(lane)[frame] = row(lane, n);
            return n;
        });
    }

    int cut(int frame, int lane) {
        if (bad(frame, lane)) {
            return NONE;
        }
        int was = column(lane)[frame] == null ? 0 : 1;
        column(lane)[frame] = null;
        return was;
    }

    int tie(int frame, int lane, int other) {
        if (bad(frame, lane) || bad(other, 0)) {
            return NONE;
        }
        told[0] = 0;
        column(lane)[frame] = column(lane)[other];
        return column(lane)[frame] == null ? 0 : count(frame, lane);
    }

    int ends(int frame, int lane) {
        return bad(frame, lane) ? NONE : guarded(() -> count(frame, lane));
    }

    int spool(int v) {
        if (threads.size() == 16) {
            return NONE;
        }
        threads.addLast(v);
        return threads.size();
    }

    private int draw() {
        if (threads.isEmpty()) {
            throw new Fault(4);
        }
        return threads.removeFirst();
    }

    private static double held(double x) {
        return Math.max(-4096, Math.min(4096, x));
    }

    /** To single precision; a double holds enough digits that rounding twice is as rounding once. */
    private static float single(double x) {
        return (float) x;
    }

    private static double eighths(int v) {
        return (double) new BigDecimal(v).floatValue() / 8;
    }

    int act(int kind, int frame, int lane, int i, int v) {
        if (kind < 0 || kind > 4 || bad(frame, lane)) {
            return NONE;
        }
        return guarded(() -> {
            switch (kind) {
                case 1 -> put(frame, lane, i, draw());
                case 2 -> {
                    tells(frame, lane, i);
                    pull(frame, lane, i, draw());
                }
                case 3 -> pull(frame, lane, i, lane == 2 ? 8 : 1);
                case 4 -> part(frame, lane, i, v);
                default -> {
                }
            }
            return tells(frame, lane, i);
        });
    }

    private void put(int f, int lane, int i, int v) {
        switch (lane) {
            case 0 -> yarn[f][i] = (char) v;
            case 1 -> length[f][i] = (short) v;
            case 2 -> tension[f][i] = (float) held(eighths(v));
            case 3 -> lift[f][i] = v % 2 != 0;
            default -> dye[f][i] = (byte) v;
        }
    }

    private void pull(int f, int lane, int i, int v) {
        switch (lane) {
            case 0 -> yarn[f][i] += v;
            case 1 -> length[f][i] += v;
            case 2 -> tension[f][i] = (float) held(single(tension[f][i] + eighths(v)));
            case 3 -> lift[f][i] ^= v % 2 != 0;
            default -> dye[f][i] += v;
        }
    }

    private void part(int f, int lane, int i, int v) {
        switch (lane) {
            case 0 -> yarn[f][i] /= v;
            case 1 -> length[f][i] /= v;
            case 2 -> {
                float before = tension[f][i];
                if (v == 0) {
                    throw new Fault(5);
                }
                tension[f][i] = single(before / (double) new BigDecimal(v).floatValue());
            }
            case 3 -> lift[f][i] &= v % 2 != 0;
            default -> dye[f][i] /= v;
        }
    }

    int swap(int frame, int lane, int i, int j) {
        if (bad(frame, lane)) {
            return NONE;
        }
        return guarded(() -> {
            int before = tells(frame, lane, i);
            tells(frame, lane, j);
            Object row = column(lane)[frame];
            Object kept = java.lang.reflect.Array.get(row, i);
            java.lang.reflect.Array.set(row, i, java.lang.reflect.Array.get(row, j));
            java.lang.reflect.Array.set(row, j, kept);
            return before;
        });
    }

    int cloth(int n, int m) {
        if (n > 24 || m > 24) {
            return NONE;
        }
        return guarded(() -> {
            cloth = new int[n][m];
            return n * m;
        });
    }

    int snip(int p) {
        return guarded(() -> {
            int was = cloth[p] == null ? 0 : 1;
            cloth[p] = null;
            return was;
        });
    }

    int hang(int p, int q) {
        return guarded(() -> {
            int[] to = cloth[q];
            cloth[p] = to;
            return to == null ? 0 : to.length;
        });
    }

    int cell(int p, int e) {
        return guarded(() -> cloth[p][e]);
    }

    int weave(int frame, int p, int weft) {
        if (frame < 0 || frame > 3) {
            return NONE;
        }
        int[] woven = {0};
        guarded(() -> {
            int[] pick = cloth[p];
            int cells = pick.length;
            while (woven[0] < cells) {
                int e = woven[0];
                int shown = lift[frame][e] ? yarn[frame][e] : weft;
                length[frame][e]--;
                pick[e] = shown;
                woven[0]++;
            }
            told[9]++;
            return 0;
        });
        return woven[0];
    }

    int card(int kind, int frame, int lane, int i, int v) {
        if (kind < 0 || kind > 4 || bad(frame, lane) || cards.size() == 12) {
            return NONE;
        }
        cards.add(new int[] {kind, frame, lane, i, v});
        return cards.size();
    }

    int unhook() {
        int were = cards.size();
        cards.clear();
        return were;
    }

    boolean keeper(int bits) {
        for (int k = 0; k < 32; k++) {
            if ((k < 1 || k > 5) && (bits >>> k) % 2 != 0) {
                return false;
            }
        }
        mask = bits;
        return true;
    }

    int run(int n) {
        if (n < 1 || n > 12 || cards.isEmpty()) {
            return NONE;
        }
        told[8] = 0;
        int done = 0;
        while (done < n) {
            int[] c = cards.get(done % cards.size());
            told[8] += act(c[0], c[1], c[2], c[3], c[4]);
            boolean passed = (mask & 1 << told[0]) != 0;
            if (told[0] != 0 && !passed) {
                return done;
            }
            told[0] = 0;
            done++;
        }
        return done;
    }

    int told(int what) {
        return switch (what) {
            case 0, 1, 2, 3, 4, 5, 8, 9 -> told[what];
            case 6 -> threads.size();
            case 7 -> cards.size();
            default -> NONE;
        };
    }
}
