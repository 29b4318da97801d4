/** Promises 2 to 5: thread, cut, tie, ends. */
public final class LaneTest {
    private static final int NONE = HandLoom.NONE;
    private static final int MIN = Integer.MIN_VALUE;
    private static final int MAX = Integer.MAX_VALUE;

    public static void main(String[] args) {
        threads();
        threadsAnew();
        threadsNone();
        cuts();
        ties();
        tiesOfThree();
        tiesUnthreaded();
        tiesToItself();
        tiesNone();
        ends();
        Due.end();
    }

    private static void threads() {
        for (int lane = 0; lane < 5; lane++) {
            HandLoom x = new HandLoom();
            Due.is("thread 24", x.thread(3, lane, 24), 24);
            Due.is("ends 24", x.ends(3, lane), 24);
            for (int i = 0; i < 24; i++) {
                Due.is("an END at first", x.act(0, 3, lane, i, 0), 0);
                Due.is("an END at first told", x.told(0), 0);
            }
            Due.is("no END 24", x.act(0, 3, lane, 24, 0), 0);
            Due.is("no END 24 told", x.told(0), 2);
            Due.is("other frame", x.ends(2, lane), 0);
            Due.is("thread 0", x.thread(0, lane, 0), 0);
            Due.is("thread 0 told", x.told(0), 0);
            Due.is("ends 0", x.ends(0, lane), 0);
            Due.is("ends 0 told", x.told(0), 0);
            Due.is("no END 0", x.act(0, 0, lane, 0, 0), 0);
            Due.is("no END 0 told", x.told(0), 2);
            Due.is("cut of 0 ENDS", x.cut(0, lane), 1);
        }
    }

    private static void threadsAnew() {
        for (int lane = 0; lane < 5; lane++) {
            HandLoom x = new HandLoom();
            x.thread(0, lane, 3);
            x.act(3, 0, lane, 1, 0);
            int told = lane == 2 ? 8 : 1;
            Due.is("SIZE", x.thread(0, lane, -1), 0);
            Due.is("SIZE told", x.told(0), 3);
            Due.is("SIZE MIN", x.thread(0, lane, MIN), 0);
            Due.is("SIZE counted", x.told(3), 2);
            Due.is("stays", x.act(0, 0, lane, 1, 0), told);
            Due.is("above 24", x.thread(0, lane, 25), NONE);
            Due.is("stays above 24", x.act(0, 0, lane, 1, 0), told);
            Due.is("anew", x.thread(0, lane, 3), 3);
            Due.is("anew 0", x.act(0, 0, lane, 1, 0), 0);
            x.act(3, 0, lane, 1, 0);
            Due.is("fewer", x.thread(0, lane, 2), 2);
            Due.is("fewer 0", x.act(0, 0, lane, 1, 0), 0);
            Due.is("fewer ends", x.ends(0, lane), 2);
            Due.is("SIZE of an unthreaded one", x.thread(1, lane, -1), 0);
            Due.is("is not threaded by it", x.cut(1, lane), 0);
        }
    }

    private static void threadsNone() {
        HandLoom x = new HandLoom();
        x.ends(0, 0);
        int[] frames = {-1, 4, MIN, MAX, 0, 0, 0, 0};
        int[] lanes = {0, 0, 0, 0, -1, 5, MIN, MAX};
        for (int k = 0; k < frames.length; k++) {
            Due.is("no such lane", x.thread(frames[k], lanes[k], 3), NONE);
            Due.is("no such lane, ahead of SIZE", x.thread(frames[k], lanes[k], -3), NONE);
            Due.is("cut none", x.cut(frames[k], lanes[k]), NONE);
            Due.is("ends none", x.ends(frames[k], lanes[k]), NONE);
        }
        Due.is("above 24", x.thread(0, 0, 25), NONE);
        Due.is("MAX", x.thread(0, 0, MAX), NONE);
        Due.is("NONE leaves the FAULT", x.told(0), 1);
        Due.is("NONE is no SIZE", x.told(3), 0);
        Due.is("NONE threads nothing", x.cut(0, 0), 0);
        Due.is("nor one that wraps into another", x.cut(1, 0), 0);
    }

    private static void cuts() {
        HandLoom x = new HandLoom();
        x.thread(0, 1, 2);
        x.thread(1, 1, 2);
        x.act(0, 0, 1, 5, 0);
        Due.is("cut", x.cut(0, 1), 1);
        Due.is("cut leaves the FAULT", x.told(0), 2);
        Due.is("cut again", x.cut(0, 1), 0);
        Due.is("the other is there", x.ends(1, 1), 2);
        Due.is("gone", x.ends(0, 1), 0);
        Due.is("gone told", x.told(0), 1);
    }

    private static void ties() {
        for (int lane = 0; lane < 5; lane++) {
            int one = lane == 2 ? 8 : 1;
            HandLoom x = new HandLoom();
            x.thread(0, lane, 5);
            x.thread(1, lane, 3);
            Due.is("tie", x.tie(1, lane, 0), 5);
            Due.is("tie told", x.told(0), 0);
            Due.is("ends of the tied one", x.ends(1, lane), 5);
            x.act(3, 0, lane, 4, 0);
            Due.is("seen from the one", x.act(0, 1, lane, 4, 0), one);
            x.act(3, 1, lane, 0, 0);
            Due.is("seen from the other", x.act(0, 0, lane, 0, 0), one);
            Due.is("a SIZE keeps them tied", x.thread(1, lane, -2), 0);
            x.swap(1, lane, 0, 1);
            Due.is("swapped in both", x.act(0, 0, lane, 1, 0), one);
            x.thread(0, lane, 2);
            Due.is("the other keeps its ENDS", x.ends(1, lane), 5);
            Due.is("and what they have", x.act(0, 1, lane, 1, 0), one);
            x.act(3, 0, lane, 0, 0);
            Due.is("apart now", x.act(0, 1, lane, 0, 0), 0);
        }
    }

    private static void tiesOfThree() {
        HandLoom x = new HandLoom();
        x.thread(0, 0, 2);
        x.tie(1, 0, 0);
        x.tie(2, 0, 1);
        Due.is("cut one of three", x.cut(0, 0), 1);
        x.act(3, 1, 0, 0, 0);
        Due.is("the others stay tied", x.act(0, 2, 0, 0, 0), 1);
        x.thread(3, 0, 7);
        Due.is("tied anew", x.tie(1, 0, 3), 7);
        Due.is("the last one keeps its own", x.ends(2, 0), 2);
        Due.is("the tied one has the new", x.ends(1, 0), 7);
        Due.is("other lanes are untouched", x.cut(1, 1), 0);
    }

    private static void tiesUnthreaded() {
        HandLoom x = new HandLoom();
        x.thread(0, 3, 4);
        Due.is("tie to one not threaded", x.tie(0, 3, 1), 0);
        Due.is("is no FAULT", x.told(0), 0);
        Due.is("is not threaded then", x.cut(0, 3), 0);
        x.thread(1, 3, 2);
        Due.is("threading the other ends it", x.ends(0, 3), 0);
        Due.is("MISSING", x.told(0), 1);
        Due.is("tie clears the FAULT", x.tie(0, 3, 2), 0);
        Due.is("cleared", x.told(0), 0);
        Due.is("no such sort there", x.tie(0, 4, 1), 0);
    }

    private static void tiesToItself() {
        HandLoom x = new HandLoom();
        x.thread(0, 0, 4);
        x.tie(1, 0, 0);
        Due.is("to itself", x.tie(0, 0, 0), 4);
        x.act(3, 0, 0, 0, 0);
        Due.is("stays what it was", x.act(0, 1, 0, 0, 0), 1);
        Due.is("to itself, not threaded", x.tie(2, 0, 2), 0);
    }

    private static void tiesNone() {
        HandLoom x = new HandLoom();
        x.thread(0, 0, 3);
        x.ends(1, 0);
        int[] wrong = {-1, 4, MIN, MAX};
        for (int frame : wrong) {
            Due.is("tie of none", x.tie(frame, 0, 0), NONE);
            Due.is("tie to none", x.tie(0, 0, frame), NONE);
        }
        Due.is("no sort -1", x.tie(0, -1, 1), NONE);
        Due.is("no sort 5", x.tie(0, 5, 1), NONE);
        Due.is("NONE leaves the FAULT", x.told(0), 1);
        Due.is("NONE leaves the lane", x.ends(0, 0), 3);
    }

    private static void ends() {
        HandLoom x = new HandLoom();
        Due.is("MISSING", x.ends(2, 2), 0);
        Due.is("MISSING told", x.told(0), 1);
        Due.is("MISSING counted", x.told(1), 1);
        x.thread(2, 2, 11);
        Due.is("ends", x.ends(2, 2), 11);
        Due.is("ends told", x.told(0), 0);
        Due.is("still counted", x.told(1), 1);
    }
}
