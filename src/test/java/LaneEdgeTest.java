/** Each sentence of promises 1 to 5 that names a boundary case. */
public final class LaneEdgeTest {
    private static final int NONE = HandLoom.NONE;
    private static final int MIN = Integer.MIN_VALUE;
    private static final int MAX = Integer.MAX_VALUE;
    private static final int YARN = 0;
    private static final int TENSION = 2;
    private static final int LAY = 1;
    private static final int PULL = 2;
    private static final int PART = 4;
    private static final int MISSING = 1;
    private static final int OUTSIDE = 2;
    private static final int SIZE = 3;
    private static final int EMPTY = 4;
    private static final int ZERO = 5;

    public static void main(String[] args) {
        newNoLanes();
        newNothingElse();
        newKeeper();
        threadsAnew();
        threadsBelow0();
        cuts();
        ties();
        tiesTillThreadedAnew();
        tiesTillCut();
        tiesTillTiedAnew();
        othersStayTied();
        tiesNotThreaded();
        tieAnswers();
        endsOrMissing();
        Due.end();
    }

    /** What one TURN of an END at 0 makes it tell. */
    private static int one(int lane) {
        return lane == TENSION ? 8 : 1;
    }

    private static void newNoLanes() {
        Due.sentence("No LANE is THREADED;");
        HandLoom x = new HandLoom();
        for (int k = 0; k < 20; k++) {
            Due.fault("ends", x, x.ends(k / 5, k % 5), MISSING);
            Due.is("cut", x.cut(k / 5, k % 5), 0);
        }
    }

    private static void newNothingElse() {
        Due.sentence("no THREADS, no CLOTH, no CARDS;");
        HandLoom x = new HandLoom();
        for (int what = 0; what <= 9; what++) {
            Due.is("told(" + what + ")", x.told(what), 0);
        }
        Due.fault("no THREAD", x, x.act(LAY, 0, YARN, 0, 0), EMPTY);
        Due.fault("no CLOTH", x, x.snip(0), MISSING);
        Due.is("no CARD to run", x.run(1), NONE);
        Due.is("no CARD to unhook", x.unhook(), 0);
        Due.is("the first THREAD", x.spool(7), 1);
        Due.is("the first CARD", x.card(0, 0, YARN, 0, 0), 1);
    }

    private static void newKeeper() {
        Due.sentence("the KEEPER passes over nothing.");
        int[] kinds = {PULL, PULL, PULL, PART};
        int[] frames = {1, 0, 0, 0};
        int[] places = {0, 1, 0, 0};
        int[] faults = {MISSING, OUTSIDE, EMPTY, ZERO};
        for (int k = 0; k < kinds.length; k++) {
            HandLoom x = Hand.threaded(1);
            x.card(kinds[k], frames[k], YARN, places[k], 0);
            Due.fault("a run of " + faults[k], x, x.run(1), faults[k]);
        }
    }

    private static void threadsAnew() {
        Due.sentence("A LANE is THREADED anew with n ENDS (24 at most), which have 0 each, are"
            + " down: n.");
        for (int lane = 0; lane < 5; lane++) {
            HandLoom x = new HandLoom();
            Due.fine("24", x, x.thread(0, lane, 24), 24);
            Due.is("25", x.thread(0, lane, 25), NONE);
            Due.is("MAX", x.thread(0, lane, MAX), NONE);
            Due.fine("24 stay", x, x.ends(0, lane), 24);
            for (int i = 0; i < 24; i++) {
                Due.is("END " + i, Hand.look(x, 0, lane, i), 0);
                Hand.turn(x, 0, lane, i);
            }
            Due.fine("24 anew", x, x.thread(0, lane, 24), 24);
            for (int i = 0; i < 24; i++) {
                Due.is("END " + i + " anew", Hand.look(x, 0, lane, i), 0);
            }
            Due.fine("1", x, x.thread(0, lane, 1), 1);
            Due.fault("END 1 is away", x, Hand.look(x, 0, lane, 1), OUTSIDE);
            Due.fine("0", x, x.thread(0, lane, 0), 0);
            Due.fine("is THREADED", x, x.ends(0, lane), 0);
        }
    }

    private static void threadsBelow0() {
        Due.sentence("SIZE: below 0, it stays as it was.");
        int[] below = {-1, -24, MIN};
        for (int lane = 0; lane < 5; lane++) {
            for (int n : below) {
                HandLoom x = new HandLoom();
                Due.fault("thread " + n, x, x.thread(0, lane, n), SIZE);
                Due.fault("not THREADED as it was", x, x.ends(0, lane), MISSING);
                x.thread(0, lane, 2);
                x.tie(1, lane, 0);
                Hand.turn(x, 0, lane, 1);
                Due.fault("thread " + n + " again", x, x.thread(0, lane, n), SIZE);
                Due.is("its ENDS stay", x.ends(0, lane), 2);
                Due.is("what they have stays", Hand.look(x, 0, lane, 1), one(lane));
                Hand.turn(x, 0, lane, 0);
                Due.is("it stays tied", Hand.look(x, 1, lane, 0), one(lane));
                Due.is("told", x.told(SIZE), 2);
            }
        }
    }

    private static void cuts() {
        Due.sentence("A LANE is not THREADED any more: 1 if it was, else 0.");
        for (int lane = 0; lane < 5; lane++) {
            HandLoom x = Hand.threaded(24);
            Due.is("of 24 ENDS", x.cut(0, lane), 1);
            Due.is("again", x.cut(0, lane), 0);
            Due.fault("not THREADED", x, x.ends(0, lane), MISSING);
            x.thread(0, lane, 0);
            Due.is("of 0 ENDS", x.cut(0, lane), 1);
            Due.is("of 0 ENDS again", x.cut(0, lane), 0);
            x.tie(0, lane, 1);
            Due.is("tied to none", x.cut(0, lane), 0);
            x.thread(1, lane, 1);
            Hand.turn(x, 1, lane, 0);
            x.thread(0, lane, 1);
            Due.is("anew", x.cut(0, lane), 1);
            Due.is("the other frame's stays", Hand.look(x, 1, lane, 0), one(lane));
            x.thread(0, lane, 1);
            Due.is("THREADED behind it", Hand.look(x, 0, lane, 0), 0);
        }
    }

    private static void ties() {
        Due.sentence("A LANE of a frame becomes the same one as that sort's of another frame: from"
            + " now on an END of the one is that of the other,");
        for (int lane = 0; lane < 5; lane++) {
            HandLoom x = new HandLoom();
            x.thread(3, lane, 24);
            x.thread(0, lane, 2);
            Hand.turn(x, 3, lane, 23);
            Due.fine("the last frame's to the first one's", x, x.tie(0, lane, 3), 24);
            Due.is("what was before", Hand.look(x, 0, lane, 23), one(lane));
            Hand.turn(x, 0, lane, 0);
            Due.is("from the one", Hand.look(x, 3, lane, 0), one(lane));
            Hand.turn(x, 3, lane, 1);
            Due.is("from the other", Hand.look(x, 0, lane, 1), one(lane));
            Hand.lay(x, 0, lane, 2, 1);
            Due.is("LAY", Hand.look(x, 3, lane, 2), 1);
            Hand.pull(x, 3, lane, 4, 1);
            Due.is("PULL", Hand.look(x, 0, lane, 4), 1);
            Hand.part(x, 0, lane, 2, 2);
            Due.is("PART", Hand.look(x, 3, lane, 2), 0);
            x.swap(0, lane, 0, 10);
            Due.is("swap", Hand.look(x, 3, lane, 10), one(lane));
            Due.is("no other frame", x.cut(1, lane), 0);
            int sort = (lane + 1) % 5;
            x.thread(0, sort, 7);
            x.thread(3, sort, 9);
            x.tie(0, lane, 3);
            Due.is("no other sort", x.ends(0, sort), 7);
            Due.is("nor of the other frame", x.ends(3, sort), 9);
        }
    }

    private static void tiesTillThreadedAnew() {
        Due.sentence("till one of them is THREADED");
        for (int lane = 0; lane < 5; lane++) {
            for (int anew = 0; anew < 2; anew++) {
                HandLoom x = tied(lane);
                Due.is("THREADED anew", x.thread(anew, lane, 2), 2);
                Due.is("the other one keeps its ENDS", x.ends(1 - anew, lane), 3);
                Due.is("and what they have", Hand.look(x, 1 - anew, lane, 0), one(lane));
                Hand.turn(x, anew, lane, 1);
                Due.is("which is its own", Hand.look(x, 1 - anew, lane, 1), 0);
            }
        }
    }

    /** Frame 1's LANE tied to frame 0's, of 3 ENDS, the first one turned. */
    private static HandLoom tied(int lane) {
        HandLoom x = new HandLoom();
        x.thread(0, lane, 3);
        x.tie(1, lane, 0);
        Hand.turn(x, 1, lane, 0);
        return x;
    }

    private static void tiesTillCut() {
        Due.sentence("till one of them is THREADED, cut");
        for (int lane = 0; lane < 5; lane++) {
            for (int anew = 0; anew < 2; anew++) {
                HandLoom x = tied(lane);
                Due.is("cut", x.cut(anew, lane), 1);
                Due.fault("not THREADED", x, x.ends(anew, lane), MISSING);
                Due.fine("the other one is", x, x.ends(1 - anew, lane), 3);
                Due.is("with what it had", Hand.look(x, 1 - anew, lane, 0), one(lane));
                x.thread(anew, lane, 1);
                Due.is("not tied again", x.ends(1 - anew, lane), 3);
            }
        }
    }

    private static void tiesTillTiedAnew() {
        Due.sentence("till one of them is THREADED, cut or tied anew");
        for (int lane = 0; lane < 5; lane++) {
            for (int anew = 0; anew < 2; anew++) {
                HandLoom x = tied(lane);
                x.thread(2, lane, 5);
                Due.fine("tied anew", x, x.tie(anew, lane, 2), 5);
                Due.is("the other one keeps its ENDS", x.ends(1 - anew, lane), 3);
                Hand.turn(x, anew, lane, 1);
                Due.is("not with the old one", Hand.look(x, 1 - anew, lane, 1), 0);
                Due.is("with the new one", Hand.look(x, 2, lane, 1), one(lane));
            }
        }
    }

    private static void othersStayTied() {
        Due.sentence("(the others that are tied with it stay tied with each other);");
        for (int lane = 0; lane < 5; lane++) {
            for (int away = 0; away < 3; away++) {
                for (int how = 0; how < 3; how++) {
                    HandLoom x = tied(lane);
                    x.tie(2, lane, 1);
                    part(x, lane, away, how);
                    int a = away == 0 ? 1 : 0;
                    int b = away == 2 ? 1 : 2;
                    Hand.turn(x, a, lane, 1);
                    Due.is("the one", Hand.look(x, b, lane, 1), one(lane));
                    Hand.turn(x, b, lane, 2);
                    Due.is("the other one", Hand.look(x, a, lane, 2), one(lane));
                    Due.is("both", x.ends(b, lane), 3);
                }
            }
        }
    }

    private static void part(HandLoom x, int lane, int frame, int how) {
        if (how == 0) {
            x.thread(frame, lane, 3);
        } else if (how == 1) {
            x.cut(frame, lane);
        } else {
            x.tie(frame, lane, 3);
        }
    }

    private static void tiesNotThreaded() {
        Due.sentence("not THREADED, if that is not:");
        for (int lane = 0; lane < 5; lane++) {
            HandLoom x = Hand.threaded(3);
            Due.fine("tie to none", x, x.tie(0, lane, 1), 0);
            Due.fault("not THREADED", x, x.ends(0, lane), MISSING);
            x.thread(1, lane, 2);
            Due.fault("nor when that one is", x, x.ends(0, lane), MISSING);
            x.thread(0, lane, 4);
            Due.is("nor that one with it", x.ends(1, lane), 2);
            Due.fine("none to none", x, x.tie(2, lane, 3), 0);
        }
    }

    private static void tieAnswers() {
        Due.sentence("how many ENDS there are, 0 when it is not THREADED.");
        int[] counts = {0, 1, 23, 24};
        for (int lane = 0; lane < 5; lane++) {
            HandLoom x = new HandLoom();
            for (int n : counts) {
                x.thread(2, lane, n);
                Due.fine("tie to " + n, x, x.tie(3, lane, 2), n);
                Due.fine("ends of " + n, x, x.ends(3, lane), n);
            }
            Due.fine("tie to none", x, x.tie(3, lane, 1), 0);
            Due.is("no FAULT", x.told(MISSING), 0);
            Due.fine("to itself", x, x.tie(2, lane, 2), 24);
            Due.fine("it stays", x, x.ends(2, lane), 24);
        }
    }

    private static void endsOrMissing() {
        Due.sentence("How many ENDS a LANE has. MISSING.");
        int[] counts = {0, 1, 24};
        for (int lane = 0; lane < 5; lane++) {
            HandLoom x = new HandLoom();
            Due.fault("at first", x, x.ends(0, lane), MISSING);
            for (int n : counts) {
                x.thread(0, lane, n);
                Due.fine("ends", x, x.ends(0, lane), n);
            }
            x.cut(0, lane);
            Due.fault("cut", x, x.ends(0, lane), MISSING);
            Due.is("told", x.told(MISSING), 2);
        }
    }
}
