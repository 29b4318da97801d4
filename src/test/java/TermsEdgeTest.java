/** Each sentence of "What it is" and "Terms" that names a boundary case, but for the ACTS. */
public final class TermsEdgeTest {
    private static final int NONE = HandLoom.NONE;
    private static final int MIN = Integer.MIN_VALUE;
    private static final int MAX = Integer.MAX_VALUE;
    private static final int YARN = 0;
    private static final int LENGTH = 1;
    private static final int TENSION = 2;
    private static final int LIFT = 3;
    private static final int DYE = 4;
    private static final int LOOK = 0;
    private static final int LAY = 1;
    private static final int PULL = 2;
    private static final int TURN = 3;
    private static final int PART = 4;
    private static final int MISSING = 1;
    private static final int OUTSIDE = 2;
    private static final int SIZE = 3;
    private static final int EMPTY = 4;
    private static final int ZERO = 5;

    public static void main(String[] args) {
        calls512();
        none();
        framesAndSorts();
        endsFrom0To24();
        yarnRange();
        lengthRange();
        dyeRange();
        takenModulo();
        liftUpOrDown();
        tensionOf24Digits();
        tensionHeld();
        tellsAsNumber();
        spoolOf16();
        missingLane();
        missingCloth();
        missingPick();
        outsideEnd();
        outsidePick();
        sizeBelow0();
        emptySpool();
        zeroParts();
        faultChangesNothing();
        severalFaults();
        clothNoneAtFirst();
        cardsAtMost12();
        keeperOfSomeKinds();
        Due.end();
    }

    private static void calls512() {
        Due.sentence("An object is used for at most 512 calls after it has been made");
        HandLoom x = new HandLoom();
        x.thread(0, DYE, 1);
        for (int call = 2; call <= 512; call++) {
            Due.is("call " + call, Hand.turn(x, 0, DYE, 0), (byte) (call - 1));
        }
        HandLoom y = new HandLoom();
        for (int call = 1; call <= 512; call += 2) {
            Due.is("call " + call, y.thread(call / 2 % 4, call % 5, 24), 24);
            Due.is("call " + (call + 1), y.cloth(24, 24), 576);
        }
    }

    private static void none() {
        Due.sentence("`NONE = -2147483648`: There is none such, or it can't be.");
        Due.is("NONE", HandLoom.NONE, -2147483648L);
        Due.is("told(10)", new HandLoom().told(10), -2147483648L);
    }

    private static void framesAndSorts() {
        Due.sentence("FRAMES 0 .. 3 have each five LANES, by their sorts: 0 YARN, 1 LENGTH, "
            + "2 TENSION, 3 LIFT, 4 DYE.");
        HandLoom x = new HandLoom();
        for (int k = 0; k < 20; k++) {
            Due.fine("thread", x, x.thread(k / 5, k % 5, k + 1), k + 1);
        }
        int[] told = {40001, -25535, 32768, 1, 65};
        for (int k = 0; k < 20; k++) {
            Due.is("a LANE of its own", x.ends(k / 5, k % 5), k + 1);
            Due.is("of its sort", Hand.lay(x, k / 5, k % 5, 0, 40001), told[k % 5]);
        }
        int[] noFrames = {-1, 4, MIN, MAX};
        int[] noLanes = {-1, 5, MIN, MAX};
        for (int k = 0; k < 4; k++) {
            Due.is("no FRAME " + noFrames[k], x.ends(noFrames[k], YARN), NONE);
            Due.is("no LANE " + noLanes[k], x.ends(1, noLanes[k]), NONE);
        }
    }

    private static void endsFrom0To24() {
        Due.sentence("A LANE is THREADED, and has ENDS, 0 .. 24, by places from 0 on, or it is not"
            + " (at first).");
        for (int lane = 0; lane < 5; lane++) {
            HandLoom x = new HandLoom();
            Due.fault("not at first", x, x.ends(0, lane), MISSING);
            Due.fine("0 ENDS", x, x.thread(0, lane, 0), 0);
            Due.fine("THREADED with 0 ENDS", x, x.ends(0, lane), 0);
            Due.fault("no END 0 of 0", x, Hand.look(x, 0, lane, 0), OUTSIDE);
            Due.fine("24 ENDS", x, x.thread(0, lane, 24), 24);
            int one = lane == TENSION ? 8 : 1;
            Due.fine("END 0", x, Hand.turn(x, 0, lane, 0), one);
            Due.fine("END 23", x, Hand.turn(x, 0, lane, 23), one);
            Due.fine("END 22", x, Hand.look(x, 0, lane, 22), 0);
            Due.fault("no END 24", x, Hand.look(x, 0, lane, 24), OUTSIDE);
            Due.fault("no END -1", x, Hand.look(x, 0, lane, -1), OUTSIDE);
            Due.is("25 ENDS", x.thread(0, lane, 25), NONE);
        }
    }

    private static void laidTells(int lane, int v, int told) {
        HandLoom x = Hand.threaded(1);
        Due.fine("LAY " + v, x, Hand.lay(x, 0, lane, 0, v), told);
        Due.fine("LOOK at " + v, x, Hand.look(x, 0, lane, 0), told);
    }

    private static void yarnRange() {
        Due.sentence("of YARN 0 .. 65535");
        laidTells(YARN, 0, 0);
        laidTells(YARN, 65535, 65535);
        laidTells(YARN, 65536, 0);
        laidTells(YARN, -1, 65535);
    }

    private static void lengthRange() {
        Due.sentence("of LENGTH -32768 .. 32767");
        laidTells(LENGTH, -32768, -32768);
        laidTells(LENGTH, 32767, 32767);
        laidTells(LENGTH, 32768, -32768);
        laidTells(LENGTH, -32769, 32767);
    }

    private static void dyeRange() {
        Due.sentence("of DYE -128 .. 127");
        laidTells(DYE, -128, -128);
        laidTells(DYE, 127, 127);
        laidTells(DYE, 128, -128);
        laidTells(DYE, -129, 127);
    }

    private static void takenModulo() {
        Due.sentence("(a number that comes there is taken modulo 65536, 65536, 256)");
        modulo(YARN, 65536, 0);
        modulo(LENGTH, 65536, -32768);
        modulo(DYE, 256, -128);
        HandLoom x = Hand.threaded(1);
        Hand.lay(x, 0, LENGTH, 0, -32768);
        x.cloth(1, 1);
        x.weave(0, 0, 1);
        Due.is("one less than -32768, woven", Hand.look(x, 0, LENGTH, 0), 32767);
    }

    private static void modulo(int lane, int modulus, int least) {
        int[] numbers = {0, 1, -1, modulus - 1, modulus, modulus + 1, -modulus, 5 * modulus + 7,
            -5 * modulus - 7, least - 1, least, least + modulus - 1, least + modulus, MIN, MAX};
        for (int v : numbers) {
            HandLoom x = Hand.threaded(1);
            long laid = Math.floorMod((long) v - least, modulus) + least;
            Due.is("LAY " + v, Hand.lay(x, 0, lane, 0, v), laid);
            for (int w : numbers) {
                HandLoom y = Hand.threaded(1);
                Hand.lay(y, 0, lane, 0, v);
                long sum = Math.floorMod(laid + w - least, modulus) + least;
                Due.is(laid + " PULL " + w, Hand.pull(y, 0, lane, 0, w), sum);
            }
            long turned = Math.floorMod(laid + 1 - least, modulus) + least;
            Due.is(laid + " TURN", Hand.turn(x, 0, lane, 0), turned);
            long parted = Math.floorMod(-turned - least, modulus) + least;
            Due.is(turned + " PART by -1", Hand.part(x, 0, lane, 0, -1), parted);
        }
    }

    private static void liftUpOrDown() {
        Due.sentence("of LIFT up or down");
        int[] numbers = {2, 3, -1, -2, 65536, 65537, MIN, MAX};
        for (int v : numbers) {
            HandLoom x = Hand.threaded(1);
            Due.is("LAY " + v, Hand.lay(x, 0, LIFT, 0, v), v % 2 == 0 ? 0 : 1);
            Due.is("PULL " + v, Hand.pull(x, 0, LIFT, 0, v), 0);
            Due.is("TURN", Hand.turn(x, 0, LIFT, 0), 1);
            Due.is("TURN again", Hand.turn(x, 0, LIFT, 0), 0);
        }
    }

    /** eighths / 8 and 1 / parts of 1, then 1/8 less than it: 0 told if the digit is there. */
    private static int lastDigit(int eighths, int parts) {
        HandLoom x = Hand.threaded(1);
        Hand.lay(x, 0, TENSION, 0, 8);
        Hand.part(x, 0, TENSION, 0, parts);
        Hand.pull(x, 0, TENSION, 0, eighths);
        return Hand.pull(x, 0, TENSION, 0, -eighths - 1);
    }

    private static void tensionOf24Digits() {
        Due.sentence("of TENSION a number of single precision (IEEE 754, 24 binary digits)");
        Due.is("1 + 2^-23 has 24 digits", lastDigit(8, 1 << 23), 0);
        Due.is("1 + 2^-24 has 25", lastDigit(8, 1 << 24), -1);
        Due.is("2048 + 2^-12 has 24 digits", lastDigit(8 * 2048, 1 << 12), 0);
        Due.is("2048 + 2^-13 has 25", lastDigit(8 * 2048, 1 << 13), -1);
        Due.is("1/8 + 2^-26 has 24 digits", lastDigit(1, 1 << 26), 0);
        Due.is("1/8 + 2^-27 has 25", lastDigit(1, 1 << 27), -1);
    }

    private static void tensionHeld() {
        Due.sentence("HELD: less than -4096 is -4096, more than 4096 is 4096.");
        int[] numbers = {32767, 32768, 32769, 65536, MAX, -32767, -32768, -32769, -65536, MIN};
        for (int v : numbers) {
            int held = Math.max(-32768, Math.min(32768, v));
            HandLoom x = Hand.threaded(2);
            Due.is("LAY " + v, Hand.lay(x, 0, TENSION, 0, v), held);
            Due.is("no more is kept of it", Hand.pull(x, 0, TENSION, 0, -held), 0);
            Hand.lay(x, 0, TENSION, 1, held);
            int sum = (int) Math.max(-32768, Math.min(32768, (long) held + v));
            Due.is("PULL " + v, Hand.pull(x, 0, TENSION, 1, v), sum);
            Due.is("nor of a sum", Hand.pull(x, 0, TENSION, 1, -sum), 0);
        }
        HandLoom y = Hand.threaded(1);
        Hand.lay(y, 0, TENSION, 0, 32761);
        Due.is("TURN above 4096", Hand.turn(y, 0, TENSION, 0), 32768);
        Due.is("nor of a TURN", Hand.pull(y, 0, TENSION, 0, -32768), 0);
        Hand.lay(y, 0, TENSION, 0, 32760);
        Due.is("TURN to 4096", Hand.turn(y, 0, TENSION, 0), 32768);
        Due.is("PART by -1", Hand.part(y, 0, TENSION, 0, -1), -32768);
        Due.is("TURN at -4096", Hand.turn(y, 0, TENSION, 0), -32760);
    }

    private static void tellsAsNumber() {
        Due.sentence("As a number an END tells: of LIFT 1 or 0, of TENSION eight times it, cut"
            + " towards 0, of others what it has.");
        int[] odd = {1, 1, 1, 1, 1};
        int[] less = {65533, -3, -3, 1, -3};
        for (int lane = 0; lane < 5; lane++) {
            Due.is("1 told", Hand.look(Hand.laid(1), 0, lane, 0), odd[lane]);
            Due.is("-3 told", Hand.look(Hand.laid(-3), 0, lane, 0), less[lane]);
            Due.is("0 told", Hand.look(Hand.laid(0), 0, lane, 0), 0);
        }
        int[] eighths = {1, -1, 15, -15, 3, -3};
        int[] halves = {0, 0, 7, -7, 1, -1};
        for (int k = 0; k < eighths.length; k++) {
            HandLoom x = Hand.laid(eighths[k]);
            Due.is(eighths[k] + " eighths by 2", Hand.part(x, 0, TENSION, 0, 2), halves[k]);
            Due.is(eighths[k] + " eighths by 2, swapped", x.swap(0, TENSION, 0, 0), halves[k]);
        }
    }

    private static void spoolOf16() {
        Due.sentence("THE SPOOL has up to 16 THREADS (ints), in order; to DRAW is to take the first"
            + " one away.");
        HandLoom x = Hand.threaded(1);
        for (int round = 0; round < 3; round++) {
            for (int k = 0; k < 16; k++) {
                Due.is("THREAD " + k, x.spool(100 * round + k), k + 1);
            }
            Due.is("a 17th", x.spool(9999), NONE);
            for (int k = 0; k < 5; k++) {
                Due.is("the first one", x.act(LAY, 0, YARN, 0, 0), 100 * round + k);
                Due.is("is away", x.told(6), 15 - k);
            }
            for (int k = 5; k < 16; k++) {
                x.thread(0, YARN, 1);
                Due.is("PULL draws it, too", x.act(PULL, 0, YARN, 0, 0), 100 * round + k);
            }
            Due.is("none is left", x.told(6), 0);
        }
        x.spool(MIN);
        x.spool(MAX);
        Due.is("MIN is an int", x.act(LAY, 0, TENSION, 0, 0), -32768);
        Due.is("MAX is an int", x.act(LAY, 0, TENSION, 0, 0), 32768);
    }

    private static void missingLane() {
        Due.sentence("1 MISSING: the LANE is not THREADED");
        for (int lane = 0; lane < 5; lane++) {
            HandLoom x = new HandLoom();
            x.spool(1);
            Due.fault("ends", x, x.ends(3, lane), MISSING);
            for (int kind = 0; kind <= 4; kind++) {
                Due.fault("act " + kind, x, x.act(kind, 3, lane, 0, 1), MISSING);
            }
            Due.fault("swap", x, x.swap(3, lane, 0, 0), MISSING);
            x.thread(3, lane, 1);
            Due.fine("THREADED", x, x.ends(3, lane), 1);
            x.cut(3, lane);
            Due.fault("cut", x, x.ends(3, lane), MISSING);
        }
        int[] woven = {YARN, LENGTH, LIFT};
        for (int lane : woven) {
            HandLoom x = Hand.laid(1);
            x.cloth(1, 1);
            x.cut(0, lane);
            Due.fault("weave without " + lane, x, x.weave(0, 0, 1), MISSING);
        }
    }

    private static void missingCloth() {
        Due.sentence("or there is no CLOTH");
        HandLoom x = Hand.laid(1);
        Due.fault("snip", x, x.snip(0), MISSING);
        Due.fault("hang", x, x.hang(0, 0), MISSING);
        Due.fault("cell", x, x.cell(0, 0), MISSING);
        Due.fault("weave", x, x.weave(0, 0, 1), MISSING);
        x.cloth(-1, 1);
        Due.fault("none by a SIZE", x, x.snip(0), MISSING);
        x.cloth(25, 1);
        Due.fault("none by a NONE", x, x.snip(0), MISSING);
        x.cloth(0, 0);
        Due.fault("CLOTH without a PICK is there", x, x.snip(0), OUTSIDE);
    }

    private static void missingPick() {
        Due.sentence("or no such PICK in it any more");
        HandLoom x = Hand.laid(1);
        x.cloth(3, 1);
        x.snip(1);
        Due.fault("cell", x, x.cell(1, 0), MISSING);
        Due.fault("weave", x, x.weave(0, 1, 1), MISSING);
        x.hang(2, 1);
        Due.fault("cell of one hung to it", x, x.cell(2, 0), MISSING);
        Due.fault("weave of one hung to it", x, x.weave(0, 2, 1), MISSING);
        Due.fine("the other one", x, x.weave(0, 0, 1), 1);
    }

    private static void outsideEnd() {
        Due.sentence("2 OUTSIDE: no such END");
        int[] none = {-1, 2, 3, 24, MIN, MAX};
        for (int lane = 0; lane < 5; lane++) {
            for (int i : none) {
                HandLoom x = Hand.threaded(2);
                for (int kind = 0; kind <= 4; kind++) {
                    x.spool(1);
                    Due.fault("act " + kind + " at " + i, x, x.act(kind, 0, lane, i, 1), OUTSIDE);
                }
                Due.fault("swap of " + i, x, x.swap(0, lane, i, 0), OUTSIDE);
                Due.fault("swap with " + i, x, x.swap(0, lane, 1, i), OUTSIDE);
                Due.fine("END 1", x, x.swap(0, lane, 1, 0), 0);
            }
        }
        int[] woven = {YARN, LENGTH, LIFT};
        for (int lane : woven) {
            HandLoom x = Hand.laid(1);
            x.cloth(1, 1);
            x.thread(0, lane, 0);
            Due.fault("weave past " + lane, x, x.weave(0, 0, 1), OUTSIDE);
        }
    }

    private static void outsidePick() {
        Due.sentence("no such PICK ever");
        int[] none = {-1, 2, 3, 24, MIN, MAX};
        for (int p : none) {
            HandLoom x = Hand.threaded(2);
            x.cloth(2, 2);
            Due.fault("snip " + p, x, x.snip(p), OUTSIDE);
            Due.fault("hang " + p, x, x.hang(p, 0), OUTSIDE);
            Due.fault("hang to " + p, x, x.hang(0, p), OUTSIDE);
            Due.fault("cell of " + p, x, x.cell(p, 0), OUTSIDE);
            Due.fault("weave " + p, x, x.weave(0, p, 1), OUTSIDE);
            Due.fine("weave PICK 1", x, x.weave(0, 1, 1), 2);
        }
        HandLoom y = Hand.threaded(2);
        y.cloth(24, 2);
        y.cloth(3, 2);
        Due.fault("one of the CLOTH before", y, y.snip(3), OUTSIDE);
    }

    private static void sizeBelow0() {
        Due.sentence("3 SIZE: a number of ENDS or PICKS below 0");
        for (int lane = 0; lane < 5; lane++) {
            HandLoom x = new HandLoom();
            Due.fault("-1 ENDS", x, x.thread(0, lane, -1), SIZE);
            Due.fault("MIN ENDS", x, x.thread(0, lane, MIN), SIZE);
            Due.fine("0 ENDS", x, x.thread(0, lane, 0), 0);
        }
        HandLoom y = new HandLoom();
        Due.fault("-1 PICKS", y, y.cloth(-1, 1), SIZE);
        Due.fault("MIN PICKS", y, y.cloth(MIN, 1), SIZE);
        Due.fine("0 PICKS", y, y.cloth(0, 1), 0);
    }

    private static void emptySpool() {
        Due.sentence("4 EMPTY: to DRAW when there is no THREAD");
        int[] turned = {2, 2, 9, 0, 2};
        for (int lane = 0; lane < 5; lane++) {
            HandLoom x = Hand.threaded(1);
            Due.fault("LAY", x, x.act(LAY, 0, lane, 0, 1), EMPTY);
            Due.fault("PULL", x, x.act(PULL, 0, lane, 0, 1), EMPTY);
            x.spool(1);
            Due.fine("LAY of the last one", x, x.act(LAY, 0, lane, 0, 1), 1);
            Due.fault("LAY behind it", x, x.act(LAY, 0, lane, 0, 1), EMPTY);
            Due.fault("PULL behind it", x, x.act(PULL, 0, lane, 0, 1), EMPTY);
            Due.fine("LOOK draws none", x, x.act(LOOK, 0, lane, 0, 1), 1);
            Due.fine("TURN draws none", x, x.act(TURN, 0, lane, 0, 1), turned[lane]);
            Due.fine("PART draws none", x, x.act(PART, 0, lane, 0, 100), 0);
        }
    }

    private static void zeroParts() {
        Due.sentence("5 ZERO: to part by 0.");
        int[] lanes = {YARN, LENGTH, TENSION, DYE};
        for (int lane : lanes) {
            HandLoom x = Hand.threaded(1);
            Due.fault("0 by 0", x, Hand.part(x, 0, lane, 0, 0), ZERO);
            Hand.lay(x, 0, lane, 0, 9);
            Due.fault("9 by 0", x, Hand.part(x, 0, lane, 0, 0), ZERO);
            Due.fine("9 by 1", x, Hand.part(x, 0, lane, 0, 1), 9);
            Due.fine("9 by -1", x, Hand.part(x, 0, lane, 0, -1), lane == YARN ? 65527 : -9);
            Due.fine("by MIN", x, Hand.part(x, 0, lane, 0, MIN), 0);
        }
    }

    /** LAY with MISSING or OUTSIDE takes the THREAD, by a sentence of its own. */
    private static void faultChangesNothing() {
        Due.sentence("An ACT that has a FAULT answers 0 and changes nothing, but where it is"
            + " told.");
        for (int l = 0; l < 5; l++) {
            int lane = l;
            for (int k = 0; k <= 4; k++) {
                int kind = k;
                if (kind != LAY) {
                    String act = "act " + kind;
                    Twins.faulty(act + " MISSING", 2, MISSING, x -> x.act(kind, 3, lane, 0, 2));
                    Twins.faulty(act + " OUTSIDE", 2, OUTSIDE, x -> x.act(kind, 0, lane, 3, 2));
                }
            }
            Twins.faulty("LAY EMPTY", 0, EMPTY, x -> x.act(LAY, 0, lane, 0, 2));
            Twins.faulty("PULL EMPTY", 0, EMPTY, x -> x.act(PULL, 0, lane, 0, 2));
            if (lane != LIFT) {
                Twins.faulty("PART ZERO", 2, ZERO, x -> x.act(PART, 0, lane, 0, 0));
            }
            Twins.faulty("swap MISSING", 2, MISSING, x -> x.swap(3, lane, 0, 1));
            Twins.faulty("swap OUTSIDE", 2, OUTSIDE, x -> x.swap(0, lane, 0, 3));
            Twins.faulty("ends MISSING", 2, MISSING, x -> x.ends(3, lane));
            Twins.faulty("thread SIZE", 2, SIZE, x -> x.thread(1, lane, -1));
            Twins.faulty("thread SIZE, unthreaded", 2, SIZE, x -> x.thread(3, lane, -1));
        }
        Twins.faulty("cloth SIZE of PICKS", 2, SIZE, x -> x.cloth(-1, 2));
        Twins.faulty("cloth SIZE of CELLS", 2, SIZE, x -> x.cloth(2, -1));
        Twins.faulty("snip OUTSIDE", 2, OUTSIDE, x -> x.snip(3));
        Twins.faulty("hang OUTSIDE", 2, OUTSIDE, x -> x.hang(3, 0));
        Twins.faulty("hang to OUTSIDE", 2, OUTSIDE, x -> x.hang(0, 3));
        Twins.faulty("cell OUTSIDE", 2, OUTSIDE, x -> x.cell(3, 0));
        Twins.faulty("cell MISSING", 2, MISSING, x -> x.cell(2, 0));
        Twins.faulty("cell OUTSIDE of the PICK", 2, OUTSIDE, x -> x.cell(0, 3));
        Twins.faulty("weave OUTSIDE", 2, OUTSIDE, x -> x.weave(0, 3, 7));
        Twins.faulty("weave MISSING", 2, MISSING, x -> x.weave(0, 2, 7));
        Twins.faulty("weave with ENDS OUTSIDE", 2, OUTSIDE, x -> x.weave(2, 0, 7));
        Twins.faulty("weave with LANES MISSING", 2, MISSING, x -> x.weave(3, 0, 7));
    }

    private static void severalFaults() {
        Due.sentence("Where several could be, they are told in their order.");
        HandLoom x = new HandLoom();
        Due.fault("LAY: EMPTY, MISSING", x, x.act(LAY, 0, YARN, -1, 0), EMPTY);
        Due.fault("PULL: MISSING, OUTSIDE, EMPTY", x, x.act(PULL, 0, YARN, -1, 0), MISSING);
        Due.fault("PART: MISSING, OUTSIDE, ZERO", x, x.act(PART, 0, YARN, -1, 0), MISSING);
        Due.fault("swap: MISSING, OUTSIDE", x, x.swap(0, YARN, -1, -1), MISSING);
        Due.fault("snip: MISSING, OUTSIDE", x, x.snip(-1), MISSING);
        Due.fault("hang: MISSING, OUTSIDE", x, x.hang(-1, -1), MISSING);
        Due.fault("cell: MISSING, OUTSIDE", x, x.cell(-1, -1), MISSING);
        Due.fault("weave: MISSING, OUTSIDE", x, x.weave(0, -1, 0), MISSING);
        x.thread(0, YARN, 1);
        x.cloth(1, 1);
        Due.fault("LAY: EMPTY, OUTSIDE", x, x.act(LAY, 0, YARN, 1, 0), EMPTY);
        Due.fault("PULL: OUTSIDE, EMPTY", x, x.act(PULL, 0, YARN, 1, 0), OUTSIDE);
        Due.fault("PART: OUTSIDE, ZERO", x, x.act(PART, 0, YARN, 1, 0), OUTSIDE);
        x.snip(0);
        Due.fault("cell: MISSING, OUTSIDE of the CELL", x, x.cell(0, -1), MISSING);
        Due.fault("cell: OUTSIDE of both", x, x.cell(1, -1), OUTSIDE);
        Due.is("MISSING, one for each call", x.told(MISSING), 8);
        Due.is("OUTSIDE, one for each call", x.told(OUTSIDE), 3);
        Due.is("EMPTY, one for each call", x.told(EMPTY), 2);
        Due.is("SIZE", x.told(SIZE), 0);
        Due.is("ZERO", x.told(ZERO), 0);
    }

    private static void clothNoneAtFirst() {
        Due.sentence("CLOTH (none at first) has PICKS, rows of CELLS, ints.");
        HandLoom x = Hand.threaded(1);
        Due.fault("none at first", x, x.cell(0, 0), MISSING);
        x.cloth(2, 1);
        x.weave(0, 0, MIN);
        x.weave(0, 1, MAX);
        Due.fine("MIN is an int", x, x.cell(0, 0), MIN);
        Due.fine("MAX is an int", x, x.cell(1, 0), MAX);
    }

    private static void cardsAtMost12() {
        Due.sentence("CARDS, at most 12, each an ACT 0 .. 4 at an END, with a v.");
        HandLoom x = Hand.threaded(1);
        Due.is("no ACT -1", x.card(-1, 0, YARN, 0, 0), NONE);
        Due.is("no ACT 5", x.card(5, 0, YARN, 0, 0), NONE);
        for (int k = 0; k < 12; k++) {
            Due.is("CARD " + k, x.card(k % 5, 0, YARN, 0, 3), k + 1);
        }
        Due.is("a 13th", x.card(0, 0, YARN, 0, 0), NONE);
        x.spool(100);
        x.spool(7);
        Due.is("LOOK, LAY, PULL, TURN, PART by 3", x.run(5), 5);
        Due.is("0 + 100 + 107 + 108 + 36", x.told(8), 351);
    }

    private static void keeperOfSomeKinds() {
        Due.sentence("The KEEPER passes over FAULTS of some kinds.");
        HandLoom x = Hand.threaded(1);
        x.card(PULL, 0, YARN, 0, 0);
        x.card(PART, 0, YARN, 0, 0);
        Due.fault("of none at first", x, x.run(2), EMPTY);
        x.keeper(1 << EMPTY);
        Due.is("of one, not of the other", x.run(2), 1);
        Due.is("the other told", x.told(0), ZERO);
        x.keeper(1 << EMPTY | 1 << ZERO);
        Due.fine("of both", x, x.run(2), 2);
    }
}
