/** Each sentence of promises 9 to 13 that names a boundary case. */
public final class ClothEdgeTest {
    private static final int NONE = HandLoom.NONE;
    private static final int MIN = Integer.MIN_VALUE;
    private static final int MAX = Integer.MAX_VALUE;
    private static final int YARN = 0;
    private static final int LENGTH = 1;
    private static final int TENSION = 2;
    private static final int LIFT = 3;
    private static final int DYE = 4;
    private static final int MISSING = 1;
    private static final int OUTSIDE = 2;
    private static final int SIZE = 3;

    public static void main(String[] args) {
        clothOf0();
        clothAtMost24();
        clothBelow0();
        snips();
        snipWithoutCloth();
        snipOutside();
        hangs();
        hangsTillSnipped();
        hangsTillHungAnew();
        hangsToNone();
        hangAnswers();
        hangWithoutCloth();
        hangOutside();
        cells();
        cellFaults();
        weavesFrom0();
        looksAtLiftFirst();
        weavesYarnOrWeft();
        weavesLengthThenCell();
        firstFaultEndsIt();
        leavesTheCell();
        weaveAnswers();
        weavePickFaults();
        Due.end();
    }

    /** Frame 0 has n ENDS of each sort: LIFT up at even places, YARN 100 .., LENGTH 10. */
    private static HandLoom loom(int n) {
        HandLoom x = Hand.threaded(n);
        for (int i = 0; i < n; i++) {
            Hand.lay(x, 0, YARN, i, 100 + i);
            Hand.lay(x, 0, LENGTH, i, 10);
            Hand.lay(x, 0, LIFT, i, i + 1);
        }
        return x;
    }

    private static void clothOf0() {
        Due.sentence("New CLOTH of n PICKS of m CELLS, all 0;");
        HandLoom x = loom(3);
        x.cloth(3, 3);
        x.weave(0, 0, -5);
        x.hang(1, 0);
        x.snip(2);
        Due.fine("anew", x, x.cloth(3, 3), 9);
        for (int k = 0; k < 9; k++) {
            Due.fine("CELL " + k, x, x.cell(k / 3, k % 3), 0);
        }
        x.weave(0, 0, -5);
        Due.is("PICKS of its own", x.cell(1, 1), 0);
        Due.fine("less", x, x.cloth(2, 1), 2);
        Due.fine("the last CELL", x, x.cell(1, 0), 0);
        Due.fault("no PICK 2", x, x.cell(2, 0), OUTSIDE);
        Due.fault("no CELL 1", x, x.cell(1, 1), OUTSIDE);
        Due.fine("more", x, x.cloth(3, 3), 9);
        for (int k = 0; k < 9; k++) {
            Due.fine("CELL " + k + " again", x, x.cell(k / 3, k % 3), 0);
        }
    }

    private static void clothAtMost24() {
        Due.sentence("none of both is above 24 (else NONE, ahead of SIZE): n * m.");
        HandLoom x = new HandLoom();
        int[] most = {0, 1, 23, 24};
        for (int n : most) {
            for (int m : most) {
                Due.fine("cloth " + n + ", " + m, x, x.cloth(n, m), n * m);
            }
        }
        Due.fine("the last CELL of all", x, x.cell(23, 23), 0);
        int[] n = {25, 24, 25, 25, -1, MAX, MIN, MAX, 0, 25};
        int[] m = {24, 25, 25, -1, 25, MIN, MAX, MAX, 25, 0};
        for (int k = 0; k < n.length; k++) {
            Due.is("cloth " + n[k] + ", " + m[k], x.cloth(n[k], m[k]), NONE);
            Due.is("no FAULT", x.told(0), 0);
        }
        Due.is("no SIZE", x.told(SIZE), 0);
        Due.fine("the CLOTH stays", x, x.cell(23, 23), 0);
    }

    private static void clothBelow0() {
        Due.sentence("SIZE: one of both is below 0, the CLOTH stays as it was.");
        int[] n = {-1, 1, -1, MIN, 24, 0, -1};
        int[] m = {1, -1, -1, 24, MIN, -1, 0};
        for (int k = 0; k < n.length; k++) {
            String call = "cloth " + n[k] + ", " + m[k];
            HandLoom x = loom(2);
            Due.fault(call, x, x.cloth(n[k], m[k]), SIZE);
            Due.fault("none as it was", x, x.snip(0), MISSING);
            x.cloth(2, 2);
            x.weave(0, 1, -5);
            x.snip(0);
            Due.fault(call + " again", x, x.cloth(n[k], m[k]), SIZE);
            Due.fine("its CELLS stay", x, x.cell(1, 1), -5);
            Due.fault("what is snipped stays so", x, x.cell(0, 0), MISSING);
            Due.fault("its PICKS stay", x, x.cell(2, 0), OUTSIDE);
            Due.is("told", x.told(SIZE), 2);
        }
    }

    private static void snips() {
        Due.sentence("PICK p is none any more: 1 if it was there, else 0.");
        HandLoom x = loom(1);
        x.cloth(24, 1);
        int[] picks = {0, 23, 11};
        for (int p : picks) {
            Due.fine("snip " + p, x, x.snip(p), 1);
            Due.fine("snip " + p + " again", x, x.snip(p), 0);
            Due.fault("none any more", x, x.cell(p, 0), MISSING);
        }
        Due.fine("the next one", x, x.cell(1, 0), 0);
        Due.fine("the one ahead", x, x.cell(22, 0), 0);
        x.hang(5, 0);
        Due.fine("hung to none", x, x.snip(5), 0);
        x.hang(0, 6);
        Due.fine("there again", x, x.snip(0), 1);
        x.cloth(1, 0);
        Due.fine("without a CELL", x, x.snip(0), 1);
    }

    private static void snipWithoutCloth() {
        Due.sentence("`int snip(int p)`: MISSING: there is no CLOTH.");
        HandLoom x = new HandLoom();
        int[] picks = {0, -1, 24, MIN, MAX};
        for (int p : picks) {
            Due.fault("snip " + p, x, x.snip(p), MISSING);
        }
    }

    private static void snipOutside() {
        Due.sentence("`int snip(int p)`: OUTSIDE.");
        HandLoom x = new HandLoom();
        x.cloth(24, 24);
        x.cloth(3, 2);
        int[] picks = {-1, 3, 23, 24, MIN, MAX};
        for (int p : picks) {
            Due.fault("snip " + p, x, x.snip(p), OUTSIDE);
        }
        Due.fine("the last PICK", x, x.snip(2), 1);
        x.cloth(0, 24);
        Due.fault("of no PICKS", x, x.snip(0), OUTSIDE);
    }

    private static void hangs() {
        Due.sentence("PICK p becomes the same as PICK q: from now on a CELL of the one is that of"
            + " the other,");
        HandLoom x = loom(2);
        x.cloth(24, 2);
        x.weave(0, 23, 50);
        Due.fine("the first to the last", x, x.hang(0, 23), 2);
        Due.is("what was before", x.cell(0, 1), 50);
        x.weave(0, 0, 60);
        Due.is("from the one", x.cell(23, 1), 60);
        x.weave(0, 23, 70);
        Due.is("from the other", x.cell(0, 1), 70);
        Due.fine("to itself", x, x.hang(0, 0), 2);
        Due.is("it stays", x.cell(0, 1), 70);
        x.weave(0, 0, 80);
        Due.is("still with the other", x.cell(23, 1), 80);
        Due.is("no other", x.cell(1, 1), 0);
    }

    private static void hangsTillSnipped() {
        Due.sentence("till one of them is snipped");
        for (int gone = 0; gone < 2; gone++) {
            HandLoom x = loom(2);
            x.cloth(3, 2);
            x.hang(0, 1);
            x.hang(2, 0);
            x.weave(0, 0, 50);
            Due.fine("snip", x, x.snip(gone), 1);
            Due.fault("is none", x, x.cell(gone, 1), MISSING);
            Due.fine("the other one is there", x, x.cell(1 - gone, 1), 50);
            x.weave(0, 1 - gone, 60);
            Due.fine("and the same as the third", x, x.cell(2, 1), 60);
        }
    }

    private static void hangsTillHungAnew() {
        Due.sentence("till one of them is snipped or hung anew");
        for (int anew = 0; anew < 2; anew++) {
            HandLoom x = loom(2);
            x.cloth(4, 2);
            x.hang(0, 1);
            x.hang(2, 0);
            x.weave(0, 0, 50);
            Due.fine("hang", x, x.hang(anew, 3), 2);
            x.weave(0, anew, 60);
            Due.is("with the new one", x.cell(3, 1), 60);
            Due.is("not with the old one", x.cell(1 - anew, 1), 50);
            x.weave(0, 2, 70);
            Due.is("which is the same as the third", x.cell(1 - anew, 1), 70);
        }
    }

    private static void hangsToNone() {
        Due.sentence("(none, if that is none)");
        HandLoom x = loom(1);
        x.cloth(3, 1);
        x.snip(1);
        Due.fine("hang to none", x, x.hang(0, 1), 0);
        Due.fault("is none", x, x.cell(0, 0), MISSING);
        Due.fine("snip of it", x, x.snip(0), 0);
        x.hang(1, 2);
        Due.fault("stays none when that is there again", x, x.cell(0, 0), MISSING);
        Due.fine("there again", x, x.cell(1, 0), 0);
        x.snip(1);
        x.snip(2);
        Due.fine("none to itself", x, x.hang(1, 1), 0);
    }

    private static void hangAnswers() {
        Due.sentence("how many CELLS it has, 0 if it is none.");
        int[] counts = {0, 1, 24};
        for (int m : counts) {
            HandLoom x = new HandLoom();
            x.cloth(2, m);
            Due.fine("hang", x, x.hang(0, 1), m);
            x.snip(0);
            Due.fine("one that is none", x, x.hang(0, 1), m);
            x.snip(1);
            Due.fine("to one that is none", x, x.hang(0, 1), 0);
        }
    }

    private static void hangWithoutCloth() {
        Due.sentence("`int hang(int p, int q)`: MISSING: there is no CLOTH.");
        HandLoom x = new HandLoom();
        int[] picks = {0, -1, 24, MIN, MAX};
        for (int p : picks) {
            Due.fault("hang " + p, x, x.hang(p, 0), MISSING);
            Due.fault("hang to " + p, x, x.hang(0, p), MISSING);
        }
    }

    /** Of q first: which of both it is of is told nowhere, but it is one FAULT. */
    private static void hangOutside() {
        Due.sentence("OUTSIDE (of q first).");
        HandLoom x = loom(1);
        x.cloth(3, 1);
        x.weave(0, 0, 5);
        x.snip(2);
        int[] picks = {-1, 3, 24, MIN, MAX};
        for (int p : picks) {
            Due.fault("hang to " + p, x, x.hang(0, p), OUTSIDE);
            Due.fault("hang " + p, x, x.hang(p, 0), OUTSIDE);
            Due.fault("hang " + p + " to none", x, x.hang(p, 2), OUTSIDE);
            Due.fault("both " + p, x, x.hang(p, p), OUTSIDE);
        }
        Due.is("one each", x.told(OUTSIDE), 4 * picks.length);
        Due.fine("it stays", x, x.cell(0, 0), 100);
        Due.fine("the last PICK", x, x.hang(2, 1), 1);
    }

    private static void cells() {
        Due.sentence("CELL e of PICK p.");
        HandLoom x = loom(24);
        x.cloth(24, 24);
        x.weave(0, 0, 1);
        x.weave(0, 23, 2);
        Due.fine("the first one of the first", x, x.cell(0, 0), 100);
        Due.fine("the last one of the first", x, x.cell(0, 23), 1);
        Due.fine("the first one of the last", x, x.cell(23, 0), 100);
        Due.fine("the last one of the last", x, x.cell(23, 23), 2);
        Due.fine("one that is not woven", x, x.cell(22, 23), 0);
    }

    private static void cellFaults() {
        Due.sentence("MISSING, OUTSIDE (of the PICK, then MISSING of it, then OUTSIDE of the"
            + " CELL).");
        int[] none = {-1, 2, 24, MIN, MAX};
        HandLoom x = loom(2);
        for (int k : none) {
            Due.fault("no CLOTH " + k, x, x.cell(k, k), MISSING);
        }
        x.cloth(2, 2);
        x.snip(0);
        for (int k : none) {
            Due.fault("no PICK " + k, x, x.cell(k, 0), OUTSIDE);
            Due.fault("no PICK, no CELL " + k, x, x.cell(k, k), OUTSIDE);
            Due.fault("snipped, no CELL " + k, x, x.cell(0, k), MISSING);
            Due.fault("no CELL " + k, x, x.cell(1, k), OUTSIDE);
        }
        Due.fault("snipped", x, x.cell(0, 1), MISSING);
        Due.fine("the first CELL", x, x.cell(1, 0), 0);
        Due.fine("the last CELL of the last PICK", x, x.cell(1, 1), 0);
        x.cloth(1, 0);
        Due.fault("of no CELLS", x, x.cell(0, 0), OUTSIDE);
    }

    private static void weavesFrom0() {
        Due.sentence("PICK p is WOVEN with a frame, CELL by CELL from 0 on:");
        HandLoom x = loom(24);
        x.cloth(24, 24);
        Due.fine("the last PICK", x, x.weave(0, 23, -9), 24);
        for (int e = 0; e < 24; e++) {
            Due.is("CELL " + e, x.cell(23, e), e % 2 == 0 ? 100 + e : -9);
            Due.is("the PICK ahead", x.cell(22, e), 0);
        }
        HandLoom y = loom(4);
        y.cloth(1, 4);
        y.thread(0, LENGTH, 2);
        Due.is("the first ones", y.weave(0, 0, -9), 2);
        Due.is("CELL 0", y.cell(0, 0), 100);
        Due.is("CELL 1", y.cell(0, 1), -9);
        Due.is("CELL 3", y.cell(0, 3), 0);
        HandLoom z = new HandLoom();
        z.cloth(1, 0);
        Due.fine("no CELL, nothing lacks", z, z.weave(3, 0, -9), 0);
        Due.is("woven to its end", z.told(9), 1);
    }

    private static void looksAtLiftFirst() {
        Due.sentence("first the frame's LIFT at this END is looked at;");
        HandLoom x = loom(2);
        x.cloth(1, 2);
        x.thread(0, LIFT, 0);
        x.cut(0, YARN);
        x.cut(0, LENGTH);
        Due.fault("OUTSIDE of LIFT first", x, x.weave(0, 0, 1), OUTSIDE);
        HandLoom y = loom(2);
        y.cloth(1, 2);
        y.cut(0, LIFT);
        y.thread(0, YARN, 0);
        y.thread(0, LENGTH, 0);
        Due.fault("MISSING of LIFT first", y, y.weave(0, 0, 1), MISSING);
        Due.is("once", y.told(MISSING), 1);
    }

    private static void weavesYarnOrWeft() {
        Due.sentence("if it is up, its YARN at this END is the CELL's; else weft is;");
        HandLoom x = loom(2);
        x.cloth(1, 2);
        Hand.lay(x, 0, YARN, 0, -1);
        int[] wefts = {0, -1, MAX, MIN};
        for (int weft : wefts) {
            Due.fine("weave " + weft, x, x.weave(0, 0, weft), 2);
            Due.fine("up: the most of YARN", x, x.cell(0, 0), 65535);
            Due.fine("down: the weft", x, x.cell(0, 1), weft);
        }
        x.thread(0, YARN, 1);
        Due.fine("a YARN that is not looked at", x, x.weave(0, 0, 3), 2);
        x.cut(0, YARN);
        Due.fault("up without YARN", x, x.weave(0, 0, 3), MISSING);
        x.thread(0, YARN, 0);
        x.cut(0, LENGTH);
        Due.fault("YARN ahead of LENGTH", x, x.weave(0, 0, 3), OUTSIDE);
        x.thread(0, LENGTH, 2);
        x.thread(0, LIFT, 2);
        x.cut(0, YARN);
        Due.fine("down without YARN", x, x.weave(0, 0, 3), 2);
        x.cut(0, TENSION);
        x.cut(0, DYE);
        Due.fine("nor TENSION nor DYE", x, x.weave(0, 0, 3), 2);
    }

    private static void weavesLengthThenCell() {
        Due.sentence("then the LENGTH at this END becomes one less; then the CELL is that.");
        HandLoom x = loom(4);
        x.cloth(1, 4);
        Hand.lay(x, 0, LENGTH, 0, -32768);
        Hand.lay(x, 0, LENGTH, 1, 0);
        Hand.lay(x, 0, LENGTH, 2, 32767);
        Due.fine("weave", x, x.weave(0, 0, 7), 4);
        int[] due = {32767, -1, 32766, 9};
        for (int e = 0; e < 4; e++) {
            Due.is("LENGTH " + e, Hand.look(x, 0, LENGTH, e), due[e]);
        }
        Due.is("the CELL", x.cell(0, 2), 102);
        x.tie(1, LENGTH, 0);
        x.thread(1, LIFT, 4);
        Due.fine("another frame", x, x.weave(1, 0, 7), 4);
        Due.is("LENGTH tied with it", Hand.look(x, 0, LENGTH, 3), 8);
        x.cut(0, LENGTH);
        Due.fault("none at frame 0", x, x.weave(0, 0, 8), MISSING);
        Due.is("the CELL stays", x.cell(0, 0), 7);
    }

    private static void firstFaultEndsIt() {
        Due.sentence("The first FAULT ends it: what was woven ahead stays,");
        int[] lacking = {LIFT, YARN, LENGTH};
        for (int lane : lacking) {
            HandLoom x = loom(5);
            x.cloth(1, 5);
            x.thread(0, LIFT, 5);
            for (int i = 0; i < 5; i++) {
                Hand.turn(x, 0, LIFT, i);
            }
            x.thread(0, lane, 3);
            if (lane == LIFT) {
                Hand.turn(x, 0, LIFT, 0);
            }
            Due.is("woven", x.weave(0, 0, 7), 3);
            Due.is("OUTSIDE", x.told(0), OUTSIDE);
            Due.is("one FAULT", x.told(OUTSIDE), 1);
            Due.is("CELL 0", x.cell(0, 0), lane == YARN ? 0 : 100);
            Due.is("CELL 2", x.cell(0, 2), lane == YARN ? 0 : lane == LIFT ? 7 : 102);
            Due.is("LENGTH 2", Hand.look(x, 0, LENGTH, 2), lane == LENGTH ? -1 : 9);
            Due.is("CELL 4", x.cell(0, 4), 0);
            Due.is("not woven to its end", x.told(9), 0);
        }
    }

    private static void leavesTheCell() {
        Due.sentence("of this CELL nothing is changed.");
        int[] lacking = {LIFT, YARN, LENGTH};
        for (int lane : lacking) {
            HandLoom x = loom(3);
            x.cloth(1, 3);
            x.weave(0, 0, 7);
            Hand.lay(x, 0, YARN, 2, 500);
            x.thread(0, lane, 2);
            if (lane == LIFT) {
                Hand.turn(x, 0, LIFT, 0);
            }
            Due.is("woven", x.weave(0, 0, 8), 2);
            Due.is("the CELL ahead", x.cell(0, 1), 8);
            Due.is("the CELL stays", x.cell(0, 2), 102);
            if (lane != LENGTH) {
                Due.is("its LENGTH stays", Hand.look(x, 0, LENGTH, 2), 9);
                Due.is("the LENGTH ahead", Hand.look(x, 0, LENGTH, 1), 8);
            }
        }
    }

    private static void weaveAnswers() {
        Due.sentence("How many CELLS were woven (also with a FAULT;");
        for (int woven = 0; woven <= 3; woven++) {
            HandLoom x = loom(3);
            x.cloth(1, 3);
            x.thread(0, LENGTH, woven);
            Due.is("woven", x.weave(0, 0, 7), woven);
            Due.is("told", x.told(0), woven == 3 ? 0 : OUTSIDE);
            Due.is("to its end", x.told(9), woven == 3 ? 1 : 0);
        }
    }

    private static void weavePickFaults() {
        Due.sentence("0 if the PICK itself has one: MISSING, OUTSIDE, MISSING as with cell()).");
        int[] none = {-1, 2, 24, MIN, MAX};
        HandLoom x = loom(2);
        Due.fault("no CLOTH", x, x.weave(0, 0, 7), MISSING);
        for (int p : none) {
            Due.fault("no CLOTH, PICK " + p, x, x.weave(0, p, 7), MISSING);
        }
        x.cloth(2, 2);
        x.snip(0);
        for (int p : none) {
            Due.fault("no PICK " + p, x, x.weave(0, p, 7), OUTSIDE);
            Due.fault("no PICK ahead of no LIFT", x, x.weave(1, p, 7), OUTSIDE);
        }
        Due.fault("snipped", x, x.weave(0, 0, 7), MISSING);
        x.thread(1, LIFT, 0);
        Due.fault("snipped ahead of no END", x, x.weave(1, 0, 7), MISSING);
        Due.is("LENGTH stays", Hand.look(x, 0, LENGTH, 0), 10);
        Due.is("none is woven", x.told(9), 0);
        Due.fine("the last PICK", x, x.weave(0, 1, 7), 2);
    }
}
