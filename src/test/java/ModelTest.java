/**
 * Long runs of calls on HandLoom beside a second program of the same document, which leaves
 * wrapping, rounding, tying and the order of FAULTS to Java's own arrays and exceptions.
 */
public final class ModelTest {
    private static final int OBJECTS = 3000;
    /** With told(0) behind each, some 400 calls: an object is used for 512 at most. */
    private static final int STEPS = 150;
    private static final int[] ODD_NUMBERS = {
        0, 1, -1, 2, 3, 7, 8, -8, 24, 25, 127, 128, -129, 255, 256, 32767, 32768, -32769, 65535,
        65536, 1 << 23, 1 << 25, (1 << 24) + 1, (1 << 24) + 3, 1 << 30, 33333333,
        Integer.MAX_VALUE, Integer.MIN_VALUE};

    private static long seed = 20261116L;

    public static void main(String[] args) {
        for (int k = 0; k < OBJECTS; k++) {
            HandLoom x = new HandLoom();
            Model y = new Model();
            for (int step = 0; step < STEPS; step++) {
                step(x, y, k % 3 == 0 ? 24 : 5);
                Due.is(k + ": told(0)", x.told(0), y.told(0));
            }
            for (int what = 1; what <= 9; what++) {
                Due.is(k + ": told(" + what + ")", x.told(what), y.told(what));
            }
        }
        Due.end();
    }

    private static int next(int bound) {
        seed = seed * 6364136223846793005L + 1442695040888963407L;
        return (int) ((seed >>> 33) % bound);
    }

    /** Mostly 0 .. bound - 1, sometimes beside it. */
    private static int about(int bound) {
        return next(25) == 0 ? ODD_NUMBERS[next(ODD_NUMBERS.length)]
            : next(20) == 0 ? next(2) * (bound + 1) - 1 : next(bound);
    }

    private static int number() {
        return next(3) == 0 ? ODD_NUMBERS[next(ODD_NUMBERS.length)]
            : next(2) == 0 ? next(41) - 20 : next(200001) - 100000;
    }

    private static void step(HandLoom x, Model y, int size) {
        int f = about(4);
        int l = about(5);
        int i = about(size);
        int j = about(size);
        int v = number();
        switch (next(26)) {
            case 0, 1, 2 -> Due.is("thread", x.thread(f, l, i + 1), y.thread(f, l, i + 1));
            case 3 -> Due.is("cut", x.cut(f, l), y.cut(f, l));
            case 4, 5 -> Due.is("tie", x.tie(f, l, j), y.tie(f, l, j));
            case 6 -> Due.is("ends", x.ends(f, l), y.ends(f, l));
            case 7, 8, 9, 10 -> Due.is("spool", x.spool(v), y.spool(v));
            case 11, 12, 13, 14 -> acts(x, y, f, l, i);
            case 15 -> Due.is("swap", x.swap(f, l, i, j), y.swap(f, l, i, j));
            case 16 -> Due.is("cloth", x.cloth(i + 1, j + 1), y.cloth(i + 1, j + 1));
            case 17 -> Due.is("snip", x.snip(i), y.snip(i));
            case 18 -> Due.is("hang", x.hang(i, j), y.hang(i, j));
            case 19 -> Due.is("cell", x.cell(i, j), y.cell(i, j));
            case 20 -> weaves(x, y, f, i, v);
            case 21, 22 -> cards(x, y, f, l, i);
            case 23 -> {
                if (next(6) == 0) {
                    Due.is("unhook", x.unhook(), y.unhook());
                }
            }
            case 24 -> keeps(x, y);
            default -> runs(x, y);
        }
    }

    private static void keeps(HandLoom x, Model y) {
        int mask = next(8) == 0 ? number() : next(32) * 2;
        Due.is("keeper", x.keeper(mask), y.keeper(mask));
    }

    private static void runs(HandLoom x, Model y) {
        int n = about(13);
        Due.is("run", x.run(n), y.run(n));
    }

    private static void acts(HandLoom x, Model y, int f, int l, int i) {
        int kind = about(5);
        int v = number();
        Due.is("act " + kind, x.act(kind, f, l, i, v), y.act(kind, f, l, i, v));
        Due.is("look", x.act(0, f, l, i, v), y.act(0, f, l, i, v));
    }

    private static void cards(HandLoom x, Model y, int f, int l, int i) {
        int kind = about(5);
        int v = number();
        Due.is("card", x.card(kind, f, l, i, v), y.card(kind, f, l, i, v));
    }

    private static void weaves(HandLoom x, Model y, int f, int p, int weft) {
        Due.is("weave", x.weave(f, p, weft), y.weave(f, p, weft));
        for (int e = 0; e < 6; e++) {
            Due.is("woven cell", x.cell(p, e), y.cell(p, e));
        }
    }

    /** The machine's exceptions are its FAULTS; LANGUAGE.md does not bind a test. */
    private static final class Model {
        private static final int NONE = -2147483648;
        private final char[][] yarn = new char[4][];
        private final short[][] length = new short[4][];
        private final float[][] tension = new float[4][];
        private final boolean[][] lift = new boolean[4][];
        private final byte[][] dye = new byte[4][];
        private final java.util.ArrayDeque<Integer> threads = new java.util.ArrayDeque<>();
        private final java.util.ArrayList<int[]> cards = new java.util.ArrayList<>();
        private final int[] counts = new int[6];
        private int[][] cloth;
        private int fault;
        private int mask;
        private int sum;
        private int woven;

        private interface Job {
            int go();
        }

        private int tried(Job job) {
            int answer = 0;
            fault = 0;
            try {
                answer = job.go();
            } catch (NullPointerException e) {
                fault = 1;
            } catch (IndexOutOfBoundsException e) {
                fault = 2;
            } catch (NegativeArraySizeException e) {
                fault = 3;
            } catch (java.util.NoSuchElementException e) {
                fault = 4;
            } catch (ArithmeticException e) {
                fault = 5;
            }
            counts[fault]++;
            return answer;
        }

        private static boolean no(int f, int l) {
            return f < 0 || f > 3 || l < 0 || l > 4;
        }

        private Object lane(int f, int l) {
            Object[][] all = {yarn, length, tension, lift, dye};
            return all[l][f];
        }

        private void put(int f, int l, Object lane) {
            Object[][] all = {yarn, length, tension, lift, dye};
            all[l][f] = lane;
        }

        int thread(int f, int l, int n) {
            if (no(f, l) || n > 24) {
                return NONE;
            }
            return tried(() -> {
                switch (l) {
                    case 0 -> yarn[f] = new char[n];
                    case 1 -> length[f] = new short[n];
                    case 2 -> tension[f] = new float[n];
                    case 3 -> lift[f] = new boolean[n];
                    default -> dye[f] = new byte[n];
                }
                return n;
            });
        }

        int cut(int f, int l) {
            if (no(f, l)) {
                return NONE;
            }
            int was = lane(f, l) == null ? 0 : 1;
            put(f, l, null);
            return was;
        }

        int tie(int f, int l, int other) {
            if (no(f, l) || no(other, l)) {
                return NONE;
            }
            return tried(() -> {
                put(f, l, lane(other, l));
                return lane(f, l) == null ? 0 : java.lang.reflect.Array.getLength(lane(f, l));
            });
        }

        int ends(int f, int l) {
            return no(f, l) ? NONE : tried(() -> java.lang.reflect.Array.getLength(lane(f, l)));
        }

        int spool(int v) {
            if (threads.size() == 16) {
                return NONE;
            }
            threads.addLast(v);
            return threads.size();
        }

        int act(int kind, int f, int l, int i, int v) {
            if (no(f, l) || kind < 0 || kind > 4) {
                return NONE;
            }
            return tried(() -> switch (l) {
                case 0 -> actYarn(kind, yarn[f], i, v);
                case 1 -> actLength(kind, length[f], i, v);
                case 2 -> actTension(kind, tension[f], i, v);
                case 3 -> actLift(kind, lift[f], i, v);
                default -> actDye(kind, dye[f], i, v);
            });
        }

        private int draw() {
            return threads.removeFirst();
        }

        private int actYarn(int kind, char[] a, int i, int v) {
            switch (kind) {
                case 1 -> a[i] = (char) draw();
                case 2 -> a[i] += draw();
                case 3 -> a[i]++;
                case 4 -> a[i] /= v;
                default -> { }
            }
            return a[i];
        }

        private int actLength(int kind, short[] a, int i, int v) {
            switch (kind) {
                case 1 -> a[i] = (short) draw();
                case 2 -> a[i] += draw();
                case 3 -> a[i]++;
                case 4 -> a[i] /= v;
                default -> { }
            }
            return a[i];
        }

        private int actDye(int kind, byte[] a, int i, int v) {
            switch (kind) {
                case 1 -> a[i] = (byte) draw();
                case 2 -> a[i] += draw();
                case 3 -> a[i]++;
                case 4 -> a[i] /= v;
                default -> { }
            }
            return a[i];
        }

        private int actLift(int kind, boolean[] a, int i, int v) {
            switch (kind) {
                case 1 -> a[i] = draw() % 2 != 0;
                case 2 -> a[i] ^= draw() % 2 != 0;
                case 3 -> a[i] ^= true;
                case 4 -> a[i] &= v % 2 != 0;
                default -> { }
            }
            return a[i] ? 1 : 0;
        }

        private int actTension(int kind, float[] a, int i, int v) {
            switch (kind) {
                case 1 -> a[i] = draw() / 8f;
                case 2 -> a[i] += draw() / 8f;
                case 3 -> a[i]++;
                case 4 -> a[i] = a[i] / (v == 0 ? 1 / v : (float) v);
                default -> { }
            }
            a[i] = Math.max(-4096f, Math.min(4096f, a[i]));
            return (int) (a[i] * 8.0);
        }

        int swap(int f, int l, int i, int j) {
            if (no(f, l)) {
                return NONE;
            }
            return tried(() -> {
                Object a = lane(f, l);
                Object first = java.lang.reflect.Array.get(a, i);
                Object second = java.lang.reflect.Array.get(a, j);
                int told = act0(l, f, i);
                java.lang.reflect.Array.set(a, i, second);
                java.lang.reflect.Array.set(a, j, first);
                return told;
            });
        }

        private int act0(int l, int f, int i) {
            return switch (l) {
                case 0 -> yarn[f][i];
                case 1 -> length[f][i];
                case 2 -> (int) (tension[f][i] * 8.0);
                case 3 -> lift[f][i] ? 1 : 0;
                default -> dye[f][i];
            };
        }

        int cloth(int n, int m) {
            if (n > 24 || m > 24) {
                return NONE;
            }
            return tried(() -> {
                cloth = new int[n][m];
                return n * m;
            });
        }

        int snip(int p) {
            return tried(() -> {
                int was = cloth[p] == null ? 0 : 1;
                cloth[p] = null;
                return was;
            });
        }

        int hang(int p, int q) {
            return tried(() -> {
                cloth[p] = cloth[q];
                return cloth[p] == null ? 0 : cloth[p].length;
            });
        }

        int cell(int p, int e) {
            return tried(() -> cloth[p][e]);
        }

        int weave(int f, int p, int weft) {
            if (no(f, 0)) {
                return NONE;
            }
            int[] done = new int[1];
            tried(() -> {
                for (int e = 0; e < cloth[p].length; e++) {
                    int v = lift[f][e] ? yarn[f][e] : weft;
                    length[f][e]--;
                    cloth[p][e] = v;
                    done[0]++;
                }
                woven++;
                return 0;
            });
            return done[0];
        }

        int card(int kind, int f, int l, int i, int v) {
            if (no(f, l) || kind < 0 || kind > 4 || cards.size() == 12) {
                return NONE;
            }
            cards.add(new int[] {kind, f, l, i, v});
            return cards.size();
        }

        int unhook() {
            int were = cards.size();
            cards.clear();
            return were;
        }

        boolean keeper(int m) {
            for (int bit = 0; bit < 32; bit++) {
                if ((m >>> bit & 1) == 1 && (bit < 1 || bit > 5)) {
                    return false;
                }
            }
            mask = m;
            return true;
        }

        int run(int n) {
            if (n < 1 || n > 12 || cards.isEmpty()) {
                return NONE;
            }
            sum = 0;
            for (int k = 0; k < n; k++) {
                int[] c = cards.get(k % cards.size());
                sum += act(c[0], c[1], c[2], c[3], c[4]);
                if (fault != 0 && (mask & 1 << fault) == 0) {
                    return k;
                }
            }
            fault = 0;
            return n;
        }

        int told(int what) {
            int[] all = {fault, counts[1], counts[2], counts[3], counts[4], counts[5],
                threads.size(), cards.size(), sum, woven};
            return all[what];
        }
    }
}
