/** What the tests do at an END, by the names of the ACTS. */
final class Hand {
    private Hand() {
    }

    static int look(HandLoom x, int frame, int lane, int i) {
        return x.act(0, frame, lane, i, 0);
    }

    /** LAYS v, which has to be the only THREAD. */
    static int lay(HandLoom x, int frame, int lane, int i, int v) {
        x.spool(v);
        return x.act(1, frame, lane, i, 0);
    }

    /** PULLS by v, which has to be the only THREAD. */
    static int pull(HandLoom x, int frame, int lane, int i, int v) {
        x.spool(v);
        return x.act(2, frame, lane, i, 0);
    }

    static int turn(HandLoom x, int frame, int lane, int i) {
        return x.act(3, frame, lane, i, 0);
    }

    static int part(HandLoom x, int frame, int lane, int i, int v) {
        return x.act(4, frame, lane, i, v);
    }

    /** A loom whose frame 0 has n ENDS in each of its LANES, and no other frame any. */
    static HandLoom threaded(int n) {
        HandLoom x = new HandLoom();
        for (int lane = 0; lane < 5; lane++) {
            x.thread(0, lane, n);
        }
        return x;
    }

    /** A loom whose frame 0 has one END of each sort, laid with v. */
    static HandLoom laid(int v) {
        HandLoom x = threaded(1);
        for (int lane = 0; lane < 5; lane++) {
            lay(x, 0, lane, 0, v);
        }
        return x;
    }
}
