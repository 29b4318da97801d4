/** The sentence of "Terms" on what answers NONE, at each call and each of its arguments. */
public final class NoneEdgeTest {
    private static final int MIN = Integer.MIN_VALUE;
    private static final int MAX = Integer.MAX_VALUE;
    private static final int[] NO_FRAMES = {-1, 4, MIN, MAX};
    private static final int[] NO_LANES = {-1, 5, MIN, MAX};
    private static final int[] NO_KINDS = {-1, 5, MIN, MAX};
    /** As many THREADS as the looms have, so that a DRAW would show. */
    private static final int THREADS = 2;

    public static void main(String[] args) {
        Due.sentence("Where frame, lane, a kind or a count is said to be something and is not, an"
            + " act answers NONE, nothing happens, and there is no FAULT.");
        noFrame();
        noLane();
        noKind();
        noCount();
        noneAheadOfFaults();
        Due.end();
    }

    private static void noFrame() {
        for (int frame : NO_FRAMES) {
            String at = " of frame " + frame;
            Twins.refused("thread" + at, THREADS, x -> x.thread(frame, 0, 3));
            Twins.refused("cut" + at, THREADS, x -> x.cut(frame, 0));
            Twins.refused("tie" + at, THREADS, x -> x.tie(frame, 0, 2));
            Twins.refused("tie to one" + at, THREADS, x -> x.tie(0, 0, frame));
            Twins.refused("ends" + at, THREADS, x -> x.ends(frame, 0));
            for (int k = 0; k <= 4; k++) {
                int kind = k;
                Twins.refused("act " + kind + at, THREADS, x -> x.act(kind, frame, 0, 0, 2));
                Twins.refused("card " + kind + at, THREADS, x -> x.card(kind, frame, 0, 0, 2));
            }
            Twins.refused("swap" + at, THREADS, x -> x.swap(frame, 0, 0, 1));
            Twins.refused("weave" + at, THREADS, x -> x.weave(frame, 0, 9));
        }
    }

    private static void noLane() {
        for (int lane : NO_LANES) {
            String at = " of lane " + lane;
            for (int f = 0; f < 4; f++) {
                int frame = f;
                Twins.refused("thread" + at, THREADS, x -> x.thread(frame, lane, 3));
                Twins.refused("cut" + at, THREADS, x -> x.cut(frame, lane));
                Twins.refused("tie" + at, THREADS, x -> x.tie(frame, lane, 3 - frame));
                Twins.refused("ends" + at, THREADS, x -> x.ends(frame, lane));
                Twins.refused("swap" + at, THREADS, x -> x.swap(frame, lane, 0, 1));
                for (int k = 0; k <= 4; k++) {
                    int kind = k;
                    Twins.refused("act" + at, THREADS, x -> x.act(kind, frame, lane, 0, 2));
                    Twins.refused("card" + at, THREADS, x -> x.card(kind, frame, lane, 0, 2));
                }
            }
        }
    }

    private static void noKind() {
        for (int kind : NO_KINDS) {
            for (int l = 0; l < 5; l++) {
                int lane = l;
                Twins.refused("act " + kind, THREADS, x -> x.act(kind, 0, lane, 0, 2));
                Twins.refused("card " + kind, THREADS, x -> x.card(kind, 0, lane, 0, 2));
            }
        }
    }

    private static void noCount() {
        int[] above = {25, 26, 65536, MAX};
        for (int n : above) {
            for (int l = 0; l < 5; l++) {
                int lane = l;
                Twins.refused("thread " + n, THREADS, x -> x.thread(0, lane, n));
            }
            Twins.refused("cloth of " + n + " PICKS", THREADS, x -> x.cloth(n, 3));
            Twins.refused("cloth of " + n + " CELLS", THREADS, x -> x.cloth(3, n));
        }
        int[] noRuns = {0, -1, 13, MIN, MAX};
        for (int n : noRuns) {
            Twins.refused("run " + n, THREADS, x -> x.run(n));
        }
        int[] noWhats = {-1, 10, MIN, MAX};
        for (int what : noWhats) {
            Twins.refused("told " + what, THREADS, x -> x.told(what));
        }
    }

    /** There is no FAULT with it, also where the rest of the call has one. */
    private static void noneAheadOfFaults() {
        for (int frame : NO_FRAMES) {
            Twins.refused("thread, SIZE", THREADS, x -> x.thread(frame, 0, -1));
            Twins.refused("act, EMPTY", 0, x -> x.act(1, frame, 0, 0, 0));
            Twins.refused("act, OUTSIDE", THREADS, x -> x.act(1, frame, 0, -1, 0));
            Twins.refused("act, ZERO", THREADS, x -> x.act(4, frame, 0, 0, 0));
            Twins.refused("swap, OUTSIDE", THREADS, x -> x.swap(frame, 0, -1, -1));
            Twins.refused("weave, OUTSIDE", THREADS, x -> x.weave(frame, 3, 9));
            Twins.refused("weave, MISSING", THREADS, x -> x.weave(frame, 2, 9));
        }
        for (int kind : NO_KINDS) {
            Twins.refused("act, MISSING", THREADS, x -> x.act(kind, 3, 0, 0, 0));
            Twins.refused("act, OUTSIDE", THREADS, x -> x.act(kind, 0, 0, 3, 0));
            Twins.refused("act, EMPTY", 0, x -> x.act(kind, 0, 0, 0, 0));
        }
        Twins.refused("cloth, SIZE of CELLS", THREADS, x -> x.cloth(25, -1));
        Twins.refused("cloth, SIZE of PICKS", THREADS, x -> x.cloth(-1, 25));
    }
}
