/** Each sentence of promises 14 to 17 that names a boundary case. */
public final class CardEdgeTest {
    private static final int NONE = HandLoom.NONE;
    private static final int MIN = Integer.MIN_VALUE;
    private static final int MAX = Integer.MAX_VALUE;
    private static final int YARN = 0;
    private static final int TENSION = 2;
    private static final int LIFT = 3;
    private static final int DYE = 4;
    private static final int LOOK = 0;
    private static final int LAY = 1;
    private static final int PULL = 2;
    private static final int TURN = 3;
    private static final int PART = 4;
    private static final int MISSING = 1;
    private static final int OUTSIDE = 2;
    private static final int EMPTY = 4;
    private static final int ZERO = 5;

    public static void main(String[] args) {
        cardsComeBehind();
        cardsNone();
        unhooks();
        keeperPassesByBit();
        keeperFromNowOn();
        keeperOtherBits();
        runCounts();
        runsRound();
        runPassesOver();
        runIsEnded();
        runAnswers();
        Due.end();
    }

    private static void cardsComeBehind() {
        Due.sentence("A CARD comes behind the others: how many there are.");
        HandLoom x = Hand.threaded(24);
        for (int k = 1; k <= 12; k++) {
            Due.is("card", x.card(TURN, 0, YARN, k, 0), k);
        }
        for (int k = 1; k <= 12; k++) {
            x.thread(0, YARN, 24);
            Due.is("run", x.run(k), k);
            Due.is("CARD " + k + " is done", Hand.look(x, 0, YARN, k), 1);
            Due.is("the one behind it is not", Hand.look(x, 0, YARN, k + 1), 0);
        }
    }

    private static void cardsNone() {
        Due.sentence("NONE: there are 12, or the kind, frame or lane is none.");
        HandLoom x = new HandLoom();
        int[] kinds = {-1, 5, MIN, MAX, 0, 0, 0, 0, 0, 0, 0, 0};
        int[] frames = {0, 0, 0, 0, -1, 4, MIN, MAX, 0, 0, 0, 0};
        int[] lanes = {0, 0, 0, 0, 0, 0, 0, 0, -1, 5, MIN, MAX};
        for (int k = 0; k < kinds.length; k++) {
            Due.is("no card", x.card(kinds[k], frames[k], lanes[k], 0, 0), NONE);
            Due.is("none came", x.told(7), 0);
        }
        Due.is("the least of each", x.card(LOOK, 0, YARN, MIN, MIN), 1);
        Due.is("the most of each", x.card(PART, 3, DYE, MAX, MAX), 2);
        for (int k = 3; k <= 12; k++) {
            Due.is("card", x.card(LOOK, 0, YARN, 0, 0), k);
        }
        Due.is("there are 12", x.card(LOOK, 0, YARN, 0, 0), NONE);
        Due.is("there are 12 still", x.told(7), 12);
        Due.is("again", x.card(LOOK, 0, YARN, 0, 0), NONE);
        Due.is("no FAULT", x.told(0), 0);
    }

    private static void unhooks() {
        Due.sentence("All CARDS go: how many there were.");
        HandLoom x = Hand.threaded(2);
        Due.is("none", x.unhook(), 0);
        for (int k = 0; k < 12; k++) {
            x.card(TURN, 0, YARN, 0, 0);
        }
        Due.is("12", x.unhook(), 12);
        Due.is("all", x.told(7), 0);
        Due.is("none again", x.unhook(), 0);
        Due.is("none to run", x.run(1), NONE);
        Due.is("the first one", x.card(TURN, 0, YARN, 1, 0), 1);
        Due.is("run", x.run(1), 1);
        Due.is("the old ones are away", Hand.look(x, 0, YARN, 0), 0);
        Due.is("the new one is done", Hand.look(x, 0, YARN, 1), 1);
    }

    /** A loom with one CARD, whose ACT has this FAULT; SIZE is no FAULT of an ACT. */
    private static HandLoom failing(int fault) {
        HandLoom x = Hand.threaded(1);
        int kind = fault == ZERO ? PART : PULL;
        int frame = fault == MISSING ? 1 : 0;
        int place = fault == OUTSIDE ? 1 : 0;
        x.card(kind, frame, YARN, place, 0);
        return x;
    }

    private static void keeperPassesByBit() {
        Due.sentence("The KEEPER passes over the FAULTS of kinds k for which bit k of mask is 1,");
        int[] faults = {MISSING, OUTSIDE, EMPTY, ZERO};
        for (int mask = 0; mask < 64; mask += 2) {
            for (int fault : faults) {
                HandLoom x = failing(fault);
                Due.is("keeper(" + mask + ")", x.keeper(mask), true);
                boolean passes = (mask >> fault) % 2 == 1;
                Due.is("a run of " + fault, x.run(1), passes ? 1 : 0);
                Due.is("told", x.told(0), passes ? 0 : fault);
            }
        }
    }

    private static void keeperFromNowOn() {
        Due.sentence("from now on: true;");
        HandLoom x = failing(EMPTY);
        Due.is("not before", x.run(1), 0);
        Due.is("EMPTY", x.keeper(1 << EMPTY), true);
        Due.is("from now on", x.run(1), 1);
        Due.is("and on", x.run(12), 12);
        Due.is("another kind instead", x.keeper(1 << ZERO), true);
        Due.is("not the old one any more", x.run(1), 0);
        Due.is("all", x.keeper(62), true);
        Due.is("EMPTY, too", x.run(1), 1);
        Due.is("nothing", x.keeper(0), true);
        Due.is("passes over nothing", x.run(1), 0);
    }

    private static void keeperOtherBits() {
        Due.sentence("false, changing nothing, for others than bits 1 .. 5.");
        for (int bit = 0; bit < 32; bit++) {
            boolean good = bit >= 1 && bit <= 5;
            HandLoom x = failing(EMPTY);
            x.card(PART, 0, YARN, 0, 0);
            x.keeper(1 << EMPTY);
            Due.is("keeper with bit " + bit, x.keeper(1 << ZERO | 1 << bit), good);
            int due = !good ? 1 : bit == EMPTY ? 2 : 0;
            Due.is("a run of EMPTY, ZERO", x.run(2), due);
        }
        int[] masks = {-1, MIN, MAX, 1, 64, 63, 126, -2};
        for (int mask : masks) {
            HandLoom x = failing(EMPTY);
            Due.is("keeper(" + mask + ")", x.keeper(mask), false);
            Due.is("passes over nothing", x.run(1), 0);
            x.keeper(62);
            Due.is("keeper(" + mask + ") again", x.keeper(mask), false);
            Due.is("passes over all", x.run(1), 1);
        }
    }

    private static void runCounts() {
        Due.sentence("n CARDS are done, 1 .. 12 (else NONE, also if there are no CARDS),");
        HandLoom x = Hand.threaded(1);
        for (int n = 0; n <= 13; n++) {
            Due.is("no CARDS", x.run(n), NONE);
        }
        x.card(TURN, 0, YARN, 0, 0);
        int[] none = {0, -1, 13, MIN, MAX};
        for (int n : none) {
            Due.is("run " + n, x.run(n), NONE);
            Due.is("nothing is done", Hand.look(x, 0, YARN, 0), 0);
        }
        for (int n = 1; n <= 12; n++) {
            x.thread(0, YARN, 1);
            Due.fine("run " + n, x, x.run(n), n);
            Due.is("done", Hand.look(x, 0, YARN, 0), n);
        }
        x.unhook();
        Due.is("no CARDS any more", x.run(1), NONE);
    }

    private static void runsRound() {
        Due.sentence("from the first one on (behind the last one the first one again): each as its"
            + " ACT.");
        HandLoom x = Hand.threaded(5);
        for (int i = 0; i < 5; i++) {
            x.card(TURN, 0, YARN, i, 0);
        }
        Due.is("7 of 5", x.run(7), 7);
        int[] due = {2, 2, 1, 1, 1};
        for (int i = 0; i < 5; i++) {
            Due.is("END " + i, Hand.look(x, 0, YARN, i), due[i]);
        }
        Due.is("from the first one on again", x.run(1), 1);
        Due.is("END 0", Hand.look(x, 0, YARN, 0), 3);
        Due.is("END 2", Hand.look(x, 0, YARN, 2), 1);
        HandLoom y = Hand.threaded(1);
        y.card(LAY, 0, TENSION, 0, 9);
        y.card(PULL, 0, TENSION, 0, 9);
        y.card(TURN, 0, TENSION, 0, 9);
        y.card(PART, 0, TENSION, 0, -2);
        y.card(LOOK, 0, TENSION, 0, 9);
        y.spool(10);
        y.spool(20);
        Due.fine("each as its ACT", y, y.run(5), 5);
        Due.is("10 + 30 + 38 - 19 - 19", y.told(8), 40);
        Due.is("the THREADS are drawn", y.told(6), 0);
        Due.is("then EMPTY", y.run(5), 0);
    }

    private static void runPassesOver() {
        Due.sentence("One with a FAULT that the KEEPER passes over counts as done;");
        HandLoom x = Hand.threaded(1);
        x.keeper(1 << MISSING | 1 << OUTSIDE | 1 << EMPTY | 1 << ZERO);
        x.card(LOOK, 3, LIFT, 0, 0);
        x.card(TURN, 0, YARN, 24, 0);
        x.card(PULL, 0, YARN, 0, 0);
        x.card(PART, 0, YARN, 0, 0);
        x.card(TURN, 0, YARN, 0, 0);
        Due.fine("all are done", x, x.run(5), 5);
        Due.is("the last one, too", Hand.look(x, 0, YARN, 0), 1);
        Due.is("their answers are 0", x.told(8), 1);
        Due.fine("the last one has a FAULT", x, x.run(9), 9);
        Due.is("MISSING counted", x.told(MISSING), 3);
        Due.is("ZERO counted", x.told(ZERO), 3);
    }

    private static void runIsEnded() {
        Due.sentence("another one ends it.");
        HandLoom x = Hand.threaded(1);
        x.keeper(1 << MISSING | 1 << OUTSIDE);
        x.card(TURN, 0, YARN, 0, 0);
        x.card(LOOK, 3, YARN, 0, 0);
        x.card(PART, 0, YARN, 0, 0);
        x.card(TURN, 0, YARN, 0, 0);
        Due.is("two are done", x.run(12), 2);
        Due.is("ZERO ended it", x.told(0), ZERO);
        Due.is("those behind it are not done", Hand.look(x, 0, YARN, 0), 1);
        Due.is("up to it", x.run(2), 2);
        Due.is("no FAULT ended it", x.told(0), 0);
        HandLoom y = new HandLoom();
        y.spool(7);
        y.card(LAY, 0, YARN, 0, 0);
        Due.fault("LAY", y, y.run(1), MISSING);
        Due.is("its THREAD is gone", y.told(6), 0);
    }

    private static void runAnswers() {
        Due.sentence("How many were done.");
        for (int good = 0; good < 12; good++) {
            HandLoom x = Hand.threaded(1);
            for (int k = 0; k < good; k++) {
                x.card(TURN, 0, YARN, 0, 0);
            }
            x.card(PART, 0, YARN, 0, 0);
            Due.is("before the FAULT", x.run(12), good);
            Due.is("told", x.told(0), ZERO);
            if (good > 0) {
                Due.fine("without it", x, x.run(good), good);
            }
        }
        HandLoom y = Hand.threaded(1);
        y.card(TURN, 0, YARN, 0, 0);
        y.card(TURN, 0, YARN, 0, 0);
        Due.fine("each one as often as it was", y, y.run(12), 12);
        y.card(PART, 1, YARN, 0, 1);
        y.keeper(1 << MISSING);
        Due.fine("passed over ones, too", y, y.run(11), 11);
    }
}
