/** Each sentence on the ACTS AT AN END and of promises 6 to 8 that names a boundary case. */
public final class ActEdgeTest {
    private static final int NONE = HandLoom.NONE;
    private static final int MIN = Integer.MIN_VALUE;
    private static final int MAX = Integer.MAX_VALUE;
    private static final int YARN = 0;
    private static final int LENGTH = 1;
    private static final int TENSION = 2;
    private static final int LIFT = 3;
    private static final int DYE = 4;
    private static final int LOOK = 0;
    private static final int LAY = 1;
    private static final int PULL = 2;
    private static final int TURN = 3;
    private static final int PART = 4;
    private static final int MISSING = 1;
    private static final int OUTSIDE = 2;
    private static final int EMPTY = 4;
    private static final int ZERO = 5;

    public static void main(String[] args) {
        looks();
        layFaults();
        layLosesTheThread();
        layBecomesV();
        layOfLift();
        layOfTension();
        pullFaults();
        pullAdds();
        pullOfLift();
        pullOfTension();
        turnFaults();
        turnsOneMore();
        turnOfTension();
        partFaults();
        partCutsTowards0();
        partOfTension();
        partOfLift();
        answersWhatItTells();
        spoolTakes16();
        actKinds();
        swaps();
        swapFaults();
        Due.end();
    }

    private static void looks() {
        Due.sentence("0 LOOK: what it tells.");
        for (int lane = 0; lane < 5; lane++) {
            HandLoom x = new HandLoom();
            Due.fault("not THREADED", x, Hand.look(x, 0, lane, 0), MISSING);
            x.thread(0, lane, 24);
            Hand.lay(x, 0, lane, 23, 1);
            x.spool(5);
            Due.fine("the last END", x, Hand.look(x, 0, lane, 23), 1);
            Due.fine("again", x, Hand.look(x, 0, lane, 23), 1);
            Due.is("nothing is drawn", x.told(6), 1);
            Due.fault("behind it", x, Hand.look(x, 0, lane, 24), OUTSIDE);
        }
    }

    private static void layFaults() {
        Due.sentence("1 LAY (faults EMPTY, MISSING, OUTSIDE;");
        for (int lane = 0; lane < 5; lane++) {
            HandLoom x = new HandLoom();
            Due.fault("EMPTY ahead of MISSING", x, x.act(LAY, 0, lane, 0, 1), EMPTY);
            x.spool(1);
            Due.fault("MISSING", x, x.act(LAY, 0, lane, -1, 1), MISSING);
            x.thread(0, lane, 2);
            Due.fault("EMPTY ahead of OUTSIDE", x, x.act(LAY, 0, lane, 2, 1), EMPTY);
            x.spool(1);
            Due.fault("OUTSIDE", x, x.act(LAY, 0, lane, 2, 1), OUTSIDE);
            x.spool(1);
            Due.fault("OUTSIDE below", x, x.act(LAY, 0, lane, -1, 1), OUTSIDE);
            Due.fault("EMPTY", x, x.act(LAY, 0, lane, 1, 1), EMPTY);
            Due.fine("the END stays", x, Hand.look(x, 0, lane, 1), 0);
        }
    }

    private static void layLosesTheThread() {
        Due.sentence("with MISSING and OUTSIDE the THREAD is gone)");
        for (int lane = 0; lane < 5; lane++) {
            HandLoom x = new HandLoom();
            x.spool(2);
            x.spool(4);
            x.spool(1);
            Due.fault("MISSING", x, x.act(LAY, 0, lane, 0, 9), MISSING);
            Due.is("one is gone", x.told(6), 2);
            x.thread(0, lane, 1);
            Due.fault("OUTSIDE", x, x.act(LAY, 0, lane, 1, 9), OUTSIDE);
            Due.is("two are gone", x.told(6), 1);
            Due.fine("the END stays", x, Hand.look(x, 0, lane, 0), 0);
            Due.fine("the third one is laid", x, x.act(LAY, 0, lane, 0, 9), 1);
            Due.is("three are gone", x.told(6), 0);
        }
    }

    private static int laidOn5(int lane, int v) {
        HandLoom x = Hand.laid(5);
        int told = Hand.lay(x, 0, lane, 0, v);
        Due.is("drawn", x.told(6), 0);
        return told;
    }

    private static void layBecomesV() {
        Due.sentence("v is DRAWN, and the END becomes v;");
        int[] v = {0, 1, -1, 127, 128, -128, -129, 32767, 32768, -32768, 65535, 65536, MIN, MAX};
        for (int number : v) {
            Due.is("YARN " + number, laidOn5(YARN, number), (char) number);
            Due.is("LENGTH " + number, laidOn5(LENGTH, number), (short) number);
            Due.is("DYE " + number, laidOn5(DYE, number), (byte) number);
        }
        HandLoom x = Hand.threaded(24);
        for (int lane = 0; lane < 5; lane++) {
            Hand.lay(x, 0, lane, 23, 1);
            Due.is("the last END", Hand.look(x, 0, lane, 23), 1);
            Due.is("not the one ahead", Hand.look(x, 0, lane, 22), 0);
            Due.is("not the first one", Hand.look(x, 0, lane, 0), 0);
        }
    }

    private static void layOfLift() {
        Due.sentence("of LIFT up if v is odd, else down;");
        int[] odd = {1, -1, 3, -3, 255, 65537, MAX, MIN + 1};
        int[] even = {0, 2, -2, 256, 65536, MIN, MAX - 1};
        for (int v : odd) {
            HandLoom x = Hand.threaded(1);
            Due.is("down, LAY " + v, Hand.lay(x, 0, LIFT, 0, v), 1);
            Due.is("up, LAY " + v, Hand.lay(x, 0, LIFT, 0, v), 1);
        }
        for (int v : even) {
            HandLoom x = Hand.laid(1);
            Due.is("up, LAY " + v, Hand.lay(x, 0, LIFT, 0, v), 0);
            Due.is("down, LAY " + v, Hand.lay(x, 0, LIFT, 0, v), 0);
        }
    }

    /** A v of more than 24 digits is HELD anyway: which of two is taken shows by PART alone. */
    private static void layOfTension() {
        Due.sentence("of TENSION v eighths (v to single precision, the nearest, of two the even"
            + " one; by 8).");
        int[] exact = {0, 1, -1, 7, 8, -8, 32767, -32767, 32768, -32768};
        for (int v : exact) {
            HandLoom x = Hand.laid(5);
            Due.is("LAY " + v, Hand.lay(x, 0, TENSION, 0, v), v);
            Due.is("and no more", Hand.pull(x, 0, TENSION, 0, -v), 0);
            Hand.lay(x, 0, TENSION, 0, v);
            Due.is("an eighth of " + v, Hand.part(x, 0, TENSION, 0, 8), v / 8);
        }
        int[] large = {(1 << 24) + 1, (1 << 24) + 3, MAX};
        for (int v : large) {
            Due.is("LAY " + v, laidOn5(TENSION, v), 32768);
            Due.is("LAY " + -v, laidOn5(TENSION, -v), -32768);
        }
        Due.is("LAY MIN", laidOn5(TENSION, MIN), -32768);
    }

    private static void pullFaults() {
        Due.sentence("2 PULL (MISSING, OUTSIDE, EMPTY)");
        for (int lane = 0; lane < 5; lane++) {
            HandLoom x = new HandLoom();
            Due.fault("MISSING ahead of EMPTY", x, x.act(PULL, 0, lane, 0, 1), MISSING);
            x.thread(0, lane, 2);
            Due.fault("OUTSIDE ahead of EMPTY", x, x.act(PULL, 0, lane, 2, 1), OUTSIDE);
            Due.fault("OUTSIDE below", x, x.act(PULL, 0, lane, -1, 1), OUTSIDE);
            Due.fault("EMPTY", x, x.act(PULL, 0, lane, 1, 1), EMPTY);
            x.spool(1);
            Due.fault("MISSING", x, x.act(PULL, 1, lane, 0, 1), MISSING);
            Due.fault("OUTSIDE", x, x.act(PULL, 0, lane, 2, 1), OUTSIDE);
            Due.is("the THREAD is there", x.told(6), 1);
            Due.fine("and is drawn now", x, x.act(PULL, 0, lane, 1, 1), 1);
            Due.is("it was drawn", x.told(6), 0);
        }
    }

    private static int pulled(int lane, int has, int v) {
        HandLoom x = Hand.laid(has);
        return Hand.pull(x, 0, lane, 0, v);
    }

    private static void pullAdds() {
        Due.sentence("v is DRAWN, and the END becomes what it has and v;");
        Due.is("YARN 65535 and 1", pulled(YARN, 65535, 1), 0);
        Due.is("YARN 0 and -1", pulled(YARN, 0, -1), 65535);
        Due.is("YARN 65535 and MAX", pulled(YARN, 65535, MAX), 65534);
        Due.is("YARN 1 and MIN", pulled(YARN, 1, MIN), 1);
        Due.is("LENGTH 32767 and 1", pulled(LENGTH, 32767, 1), -32768);
        Due.is("LENGTH -32768 and -1", pulled(LENGTH, -32768, -1), 32767);
        Due.is("LENGTH 1 and MAX", pulled(LENGTH, 1, MAX), 0);
        Due.is("LENGTH -32768 and MIN", pulled(LENGTH, -32768, MIN), -32768);
        Due.is("DYE 127 and 1", pulled(DYE, 127, 1), -128);
        Due.is("DYE -128 and -1", pulled(DYE, -128, -1), 127);
        Due.is("DYE 1 and MAX", pulled(DYE, 1, MAX), 0);
        Due.is("DYE -128 and MIN", pulled(DYE, -128, MIN), -128);
    }

    private static void pullOfLift() {
        Due.sentence("of LIFT it changes if v is odd;");
        int[] odd = {1, -1, 3, -3, MAX, MIN + 1};
        int[] even = {0, 2, -2, 256, MIN, MAX - 1};
        for (int v : odd) {
            Due.is("down and " + v, pulled(LIFT, 0, v), 1);
            Due.is("up and " + v, pulled(LIFT, 1, v), 0);
        }
        for (int v : even) {
            Due.is("down and " + v, pulled(LIFT, 0, v), 0);
            Due.is("up and " + v, pulled(LIFT, 1, v), 1);
        }
    }

    /** TENSION of eighths / 8, parted. */
    private static HandLoom tension(int eighths, int parts) {
        HandLoom x = Hand.laid(eighths);
        Hand.part(x, 0, TENSION, 0, parts);
        return x;
    }

    private static int pull(HandLoom x, int v) {
        return Hand.pull(x, 0, TENSION, 0, v);
    }

    /** For TENSION near eighths / 8, 1 at least: 1/8 less is 0 told if it is above it, else -1. */
    private static int above(HandLoom x, int eighths) {
        return pull(x, -eighths - 1);
    }

    private static void pullOfTension() {
        Due.sentence("of TENSION it and v eighths as told, the sum to the nearest.");
        Due.is("32767 and 1", pulled(TENSION, 32767, 1), 32768);
        Due.is("32768 and 1 is HELD", pulled(TENSION, 32768, 1), 32768);
        Due.is("-32768 and -1 is HELD", pulled(TENSION, -32768, -1), -32768);
        Due.is("-32768 and 65536: v is not HELD", pulled(TENSION, -32768, 65536), 32768);
        Due.is("32768 and -65535: v is not HELD", pulled(TENSION, 32768, -65535), -32767);
        Due.is("32768 and MIN", pulled(TENSION, 32768, MIN), -32768);
        Due.is("-32768 and MAX", pulled(TENSION, -32768, MAX), 32768);
        HandLoom below = tension(8, 1 << 25);
        pull(below, 8);
        Due.is("1 + 2^-25: the nearest is 1", above(below, 8), -1);
        HandLoom tie = tension(8, 1 << 24);
        pull(tie, 8);
        Due.is("1 + 2^-24: of two the even one is 1", above(tie, 8), -1);
        HandLoom over = tension(24, 1 << 25);
        pull(over, 8);
        Due.is("1 + 3 * 2^-25: the nearest is above 1", above(over, 8), 0);
        HandLoom tieUp = tension(24, 1 << 24);
        pull(tieUp, 8);
        pull(tieUp, 8);
        Due.is("1 + 3 * 2^-24: of two the even one is 1 + 2^-22", above(tieUp, 16), 0);
        HandLoom less = tension(8, 1 << 25);
        Due.is("-1 + 2^-25: of two the even one is -1", pull(less, -8), -8);
    }

    private static void turnFaults() {
        Due.sentence("3 TURN (MISSING, OUTSIDE)");
        for (int lane = 0; lane < 5; lane++) {
            HandLoom x = new HandLoom();
            Due.fault("MISSING", x, Hand.turn(x, 0, lane, -1), MISSING);
            x.thread(0, lane, 2);
            Due.fault("OUTSIDE", x, Hand.turn(x, 0, lane, 2), OUTSIDE);
            Due.fault("OUTSIDE below", x, Hand.turn(x, 0, lane, -1), OUTSIDE);
            Due.fine("no EMPTY", x, Hand.turn(x, 0, lane, 1), lane == TENSION ? 8 : 1);
        }
    }

    private static int turned(int lane, int has) {
        return Hand.turn(Hand.laid(has), 0, lane, 0);
    }

    private static void turnsOneMore() {
        Due.sentence("the END becomes one more (of LIFT the other one);");
        Due.is("YARN 65534", turned(YARN, 65534), 65535);
        Due.is("YARN 65535", turned(YARN, 65535), 0);
        Due.is("LENGTH 32766", turned(LENGTH, 32766), 32767);
        Due.is("LENGTH 32767", turned(LENGTH, 32767), -32768);
        Due.is("LENGTH -1", turned(LENGTH, -1), 0);
        Due.is("DYE 126", turned(DYE, 126), 127);
        Due.is("DYE 127", turned(DYE, 127), -128);
        Due.is("DYE -1", turned(DYE, -1), 0);
        Due.is("LIFT down", turned(LIFT, 0), 1);
        Due.is("LIFT up", turned(LIFT, 1), 0);
    }

    private static void turnOfTension() {
        Due.sentence("of TENSION eight eighths more, to the nearest.");
        Due.is("0", turned(TENSION, 0), 8);
        Due.is("-4", turned(TENSION, -4), 4);
        Due.is("32759", turned(TENSION, 32759), 32767);
        Due.is("32760", turned(TENSION, 32760), 32768);
        Due.is("32761 is HELD", turned(TENSION, 32761), 32768);
        Due.is("-32768", turned(TENSION, -32768), -32760);
        HandLoom tie = tension(8, 1 << 24);
        Due.is("1 + 2^-24", Hand.turn(tie, 0, TENSION, 0), 8);
        Due.is("of two the even one is 1", above(tie, 8), -1);
        HandLoom over = tension(24, 1 << 25);
        Due.is("1 + 3 * 2^-25", Hand.turn(over, 0, TENSION, 0), 8);
        Due.is("the nearest is above 1", above(over, 8), 0);
        HandLoom less = tension(-8, 1 << 25);
        Due.is("1 - 2^-25: of two the even one is 1", Hand.turn(less, 0, TENSION, 0), 8);
        HandLoom under = tension(-8, 1 << 24);
        Due.is("1 - 2^-24 has 24 digits", Hand.turn(under, 0, TENSION, 0), 7);
    }

    private static void partFaults() {
        Due.sentence("4 PART by v (MISSING, OUTSIDE, ZERO)");
        int[] lanes = {YARN, LENGTH, TENSION, DYE};
        for (int lane : lanes) {
            HandLoom x = new HandLoom();
            Due.fault("MISSING ahead of ZERO", x, Hand.part(x, 0, lane, 0, 0), MISSING);
            x.thread(0, lane, 2);
            Due.fault("OUTSIDE ahead of ZERO", x, Hand.part(x, 0, lane, 2, 0), OUTSIDE);
            Due.fault("OUTSIDE below", x, Hand.part(x, 0, lane, -1, 0), OUTSIDE);
            Hand.lay(x, 0, lane, 1, 100);
            Due.fault("ZERO", x, Hand.part(x, 0, lane, 1, 0), ZERO);
            Due.fine("the END stays", x, Hand.look(x, 0, lane, 1), 100);
            Due.fine("by 1", x, Hand.part(x, 0, lane, 1, 1), 100);
        }
    }

    private static int parted(int lane, int has, int v) {
        return Hand.part(Hand.laid(has), 0, lane, 0, v);
    }

    private static void partCutsTowards0() {
        Due.sentence("the END becomes what it has, divided by v, cut towards 0;");
        Due.is("YARN 65535 by 2", parted(YARN, 65535, 2), 32767);
        Due.is("YARN 65535 by -1", parted(YARN, 65535, -1), 1);
        Due.is("YARN 7 by -2", parted(YARN, 7, -2), 65533);
        Due.is("YARN 1 by -2", parted(YARN, 1, -2), 0);
        Due.is("YARN 65535 by 65536", parted(YARN, 65535, 65536), 0);
        Due.is("LENGTH -7 by 2", parted(LENGTH, -7, 2), -3);
        Due.is("LENGTH -1 by 2", parted(LENGTH, -1, 2), 0);
        Due.is("LENGTH 7 by -2", parted(LENGTH, 7, -2), -3);
        Due.is("LENGTH -32768 by -1", parted(LENGTH, -32768, -1), -32768);
        Due.is("LENGTH -32768 by MIN", parted(LENGTH, -32768, MIN), 0);
        Due.is("LENGTH 32767 by MAX", parted(LENGTH, 32767, MAX), 0);
        Due.is("DYE -127 by 10", parted(DYE, -127, 10), -12);
        Due.is("DYE -128 by -1", parted(DYE, -128, -1), -128);
        Due.is("DYE -128 by 128", parted(DYE, -128, 128), -1);
        Due.is("DYE 127 by 128", parted(DYE, 127, 128), 0);
    }

    private static void partOfTension() {
        Due.sentence("of TENSION the quotient by v (to single precision), to the nearest;");
        Due.is("100 by 3", parted(TENSION, 100, 3), 33);
        Due.is("-100 by 3", parted(TENSION, -100, 3), -33);
        Due.is("32768 by -1", parted(TENSION, 32768, -1), -32768);
        Due.is("32768 by MIN", parted(TENSION, 32768, MIN), 0);
        HandLoom third = tension(8, 3);
        Due.is("a third and 1/24 told", pull(third, 1), 3);
        quotientRounds();
        divisorRounds();
        quotientFades();
    }

    /** A quotient's last digit shows by how sums round that it is half a last digit of. */
    private static void quotientRounds() {
        HandLoom up = tension(8, 1 << 23);
        pull(up, 12);
        Hand.part(up, 0, TENSION, 0, 3);
        Hand.part(up, 0, TENSION, 0, 1 << 24);
        Due.is("1.5 + 2^-23 by 3: the nearest is above 1/2", pull(up, -8), -7);
        HandLoom down = tension(-8, 1 << 22);
        pull(down, 12);
        Hand.part(down, 0, TENSION, 0, 3);
        pull(down, 4);
        Due.is("1.5 - 2^-22 by 3: the nearest is 1/2 - 3 * 2^-25", pull(down, 8), 15);
    }

    private static void divisorRounds() {
        HandLoom even = tension(8, 1 << 23);
        Hand.turn(even, 0, TENSION, 0);
        Hand.part(even, 0, TENSION, 0, (1 << 24) + 1);
        Due.is("2^24 + 1: of two the even one is 2^24", pull(even, -16), -15);
        HandLoom evenUp = tension(16, 1 << 23);
        Hand.turn(evenUp, 0, TENSION, 0);
        Hand.part(evenUp, 0, TENSION, 0, (1 << 24) + 3);
        Due.is("2^24 + 3: of two the even one is 2^24 + 4", pull(evenUp, -16), -16);
        HandLoom below = tension(8, 1 << 23);
        Hand.turn(below, 0, TENSION, 0);
        Hand.part(below, 0, TENSION, 0, -(1 << 24) - 1);
        Due.is("-2^24 - 1: of two the even one is -2^24", pull(below, 16), 15);
    }

    private static void quotientFades() {
        HandLoom x = Hand.laid(32768);
        for (int k = 0; k < 8; k++) {
            Due.fine("ever less", x, Hand.part(x, 0, TENSION, 0, MIN), 0);
        }
        Due.is("and 1", pull(x, 1), 1);
    }

    private static void partOfLift() {
        Due.sentence("of LIFT it is down then if v is even, and there is no ZERO.");
        int[] even = {0, 2, -2, 256, MIN, MAX - 1};
        int[] odd = {1, -1, 3, -3, MAX, MIN + 1};
        for (int v : even) {
            HandLoom x = Hand.laid(1);
            Due.fine("up by " + v, x, Hand.part(x, 0, LIFT, 0, v), 0);
            Due.fine("down by " + v, x, Hand.part(x, 0, LIFT, 0, v), 0);
            Due.is("no ZERO", x.told(ZERO), 0);
        }
        for (int v : odd) {
            Due.is("up by " + v, parted(LIFT, 1, v), 1);
            Due.is("down by " + v, parted(LIFT, 0, v), 0);
        }
        HandLoom y = new HandLoom();
        Due.fault("MISSING by 0", y, Hand.part(y, 0, LIFT, 0, 0), MISSING);
        y.thread(0, LIFT, 1);
        Due.fault("OUTSIDE by 0", y, Hand.part(y, 0, LIFT, 1, 0), OUTSIDE);
    }

    private static void answersWhatItTells() {
        Due.sentence("Each answers what the END tells then.");
        int[][] due = {
            {65535, 65534, 65535, 32767}, {-1, -2, -1, 0}, {-1, -2, 6, 3}, {1, 0, 1, 0},
            {-1, -2, -1, 0}};
        for (int lane = 0; lane < 5; lane++) {
            HandLoom x = Hand.threaded(1);
            x.spool(-1);
            x.spool(-1);
            for (int kind = LAY; kind <= PART; kind++) {
                int answer = x.act(kind, 0, lane, 0, 2);
                Due.is("ACT " + kind + " of " + lane, answer, due[lane][kind - 1]);
                Due.is("LOOK then", x.act(LOOK, 0, lane, 0, 2), answer);
            }
        }
    }

    private static void spoolTakes16() {
        Due.sentence("A THREAD comes behind those on the SPOOL: how many there are; NONE if there"
            + " are 16.");
        HandLoom x = Hand.threaded(1);
        for (int k = 1; k <= 16; k++) {
            Due.is("spool", x.spool(k), k);
        }
        Due.is("a 17th", x.spool(17), NONE);
        Due.is("again", x.spool(MIN), NONE);
        Due.is("the first one is drawn", x.act(LAY, 0, YARN, 0, 0), 1);
        Due.is("one more can come", x.spool(99), 16);
        Due.is("no other", x.spool(100), NONE);
        for (int k = 2; k <= 16; k++) {
            Due.is("in order", x.act(LAY, 0, YARN, 0, 0), k);
        }
        Due.is("it came behind them", x.act(LAY, 0, YARN, 0, 0), 99);
        Due.fault("none is left", x, x.act(LAY, 0, YARN, 0, 0), EMPTY);
        Due.is("the first one again", x.spool(MIN), 1);
        Twins.refused("spool of a 17th", 16, y -> y.spool(5));
    }

    private static void actKinds() {
        Due.sentence("An ACT of kind 0 .. 4 at END i of a LANE; v counts for PART alone.");
        int[] noKinds = {-1, 5, MIN, MAX};
        for (int lane = 0; lane < 5; lane++) {
            HandLoom x = Hand.laid(1);
            for (int kind : noKinds) {
                Due.is("kind " + kind, x.act(kind, 0, lane, 0, 1), NONE);
            }
            int[] v = {0, 1, 2, -1, MIN, MAX};
            for (int number : v) {
                x.spool(1);
                Due.fine("LAY", x, x.act(LAY, 0, lane, 0, number), 1);
                Due.fine("LOOK", x, x.act(LOOK, 0, lane, 0, number), 1);
                x.spool(2);
                Due.fine("PULL", x, x.act(PULL, 0, lane, 0, number), lane == LIFT ? 1 : 3);
                x.thread(0, lane, 1);
                Due.fine("TURN", x, x.act(TURN, 0, lane, 0, number), lane == TENSION ? 8 : 1);
            }
            Hand.lay(x, 0, lane, 0, 1);
            Due.fine("PART by 2", x, x.act(PART, 0, lane, 0, 2), 0);
        }
    }

    private static void swaps() {
        Due.sentence("ENDS i and j of a LANE change places: what the first one told before.");
        int[] less = {65529, -7, -7, 1, -7};
        for (int lane = 0; lane < 5; lane++) {
            HandLoom x = Hand.threaded(24);
            Hand.lay(x, 0, lane, 0, 2);
            Hand.lay(x, 0, lane, 23, -7);
            int first = lane == LIFT ? 0 : 2;
            Due.fine("the first and the last END", x, x.swap(0, lane, 0, 23), first);
            Due.is("END 0", Hand.look(x, 0, lane, 0), less[lane]);
            Due.is("END 23", Hand.look(x, 0, lane, 23), first);
            Due.fine("one with itself", x, x.swap(0, lane, 0, 0), less[lane]);
            Due.is("it stays", Hand.look(x, 0, lane, 0), less[lane]);
            Due.fine("the last and the first END", x, x.swap(0, lane, 23, 0), first);
            Due.is("END 0 again", Hand.look(x, 0, lane, 0), first);
            Due.is("END 23 again", Hand.look(x, 0, lane, 23), less[lane]);
            Due.is("END 1", Hand.look(x, 0, lane, 1), 0);
        }
        HandLoom y = Hand.threaded(2);
        Hand.lay(y, 0, TENSION, 0, 3);
        Hand.part(y, 0, TENSION, 0, 2);
        Due.is("1.5 eighths tell 1", y.swap(0, TENSION, 0, 1), 1);
        Due.is("all of it is swapped", Hand.pull(y, 0, TENSION, 1, -2), 0);
        Due.is("-1.5 eighths", Hand.pull(y, 0, TENSION, 1, -1), -1);
    }

    private static void swapFaults() {
        Due.sentence("MISSING, OUTSIDE (of either).");
        int[] none = {-1, 2, 24, MIN, MAX};
        for (int lane = 0; lane < 5; lane++) {
            HandLoom x = new HandLoom();
            Due.fault("MISSING", x, x.swap(0, lane, 0, 0), MISSING);
            Due.fault("MISSING ahead of OUTSIDE", x, x.swap(0, lane, -1, 24), MISSING);
            x.thread(0, lane, 0);
            Due.fault("of 0 ENDS", x, x.swap(0, lane, 0, 0), OUTSIDE);
            x.thread(0, lane, 2);
            Hand.lay(x, 0, lane, 1, 1);
            for (int i : none) {
                Due.fault("the first one " + i, x, x.swap(0, lane, i, 1), OUTSIDE);
                Due.fault("the second one " + i, x, x.swap(0, lane, 1, i), OUTSIDE);
                Due.fault("both " + i, x, x.swap(0, lane, i, i), OUTSIDE);
                Due.fine("the END stays", x, Hand.look(x, 0, lane, 1), 1);
            }
            Due.is("one FAULT each", x.told(OUTSIDE), 1 + 3 * none.length);
        }
    }
}
