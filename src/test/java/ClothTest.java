/** Promises 9 to 13: cloth, snip, hang, cell, weave. */
public final class ClothTest {
    private static final int NONE = HandLoom.NONE;
    private static final int MIN = Integer.MIN_VALUE;
    private static final int MAX = Integer.MAX_VALUE;
    private static final int YARN = 0;
    private static final int LENGTH = 1;
    private static final int LIFT = 3;

    public static void main(String[] args) {
        cloth();
        clothAnew();
        clothWrong();
        snips();
        hangs();
        hangsApart();
        hangsWrong();
        cells();
        weaves();
        weavesUntilLiftLacks();
        weavesUntilYarnLacks();
        weavesUntilLengthLacks();
        weavesWithout();
        weavesWrongPicks();
        weavesEmptyPicks();
        weavesTied();
        weavesAnyWeft();
        Due.end();
    }

    private static void lay(HandLoom x, int frame, int lane, int i, int v) {
        x.spool(v);
        x.act(1, frame, lane, i, 0);
    }

    private static int look(HandLoom x, int frame, int lane, int i) {
        return x.act(0, frame, lane, i, 0);
    }

    /** A loom whose frame 0 has n ENDS of LIFT, up at even places, of YARN 100 .., of LENGTH 10. */
    private static HandLoom loom(int n) {
        HandLoom x = new HandLoom();
        x.thread(0, YARN, n);
        x.thread(0, LENGTH, n);
        x.thread(0, LIFT, n);
        for (int i = 0; i < n; i++) {
            lay(x, 0, YARN, i, 100 + i);
            lay(x, 0, LENGTH, i, 10);
            lay(x, 0, LIFT, i, i + 1);
        }
        return x;
    }

    private static void cloth() {
        HandLoom x = new HandLoom();
        Due.is("24 of 24", x.cloth(24, 24), 576);
        Due.is("the last one", x.cell(23, 23), 0);
        Due.is("the last one told", x.told(0), 0);
        Due.is("3 of 5", x.cloth(3, 5), 15);
        Due.is("PICK 2", x.cell(2, 4), 0);
        Due.is("PICK 2 told", x.told(0), 0);
        x.cell(3, 0);
        Due.is("no PICK 3", x.told(0), 2);
        x.cell(2, 5);
        Due.is("no CELL 5", x.told(0), 2);
        Due.is("0 of 4", x.cloth(0, 4), 0);
        Due.is("0 of 4 told", x.told(0), 0);
        x.snip(0);
        Due.is("no PICK 0, but CLOTH", x.told(0), 2);
        Due.is("4 of 0", x.cloth(4, 0), 0);
        Due.is("PICK 3 is there", x.snip(3), 1);
        x.cell(2, 0);
        Due.is("without a CELL", x.told(0), 2);
    }

    private static void clothAnew() {
        HandLoom x = loom(4);
        x.cloth(4, 4);
        x.hang(0, 1);
        x.snip(2);
        x.weave(0, 0, -7);
        Due.is("woven", x.cell(1, 1), -7);
        Due.is("anew", x.cloth(4, 4), 16);
        for (int p = 0; p < 4; p++) {
            for (int e = 0; e < 4; e++) {
                Due.is("all 0", x.cell(p, e), 0);
                Due.is("all 0 told", x.told(0), 0);
            }
        }
        x.weave(0, 0, -7);
        Due.is("hangs with none", x.cell(1, 1), 0);
    }

    private static void clothWrong() {
        HandLoom x = new HandLoom();
        Due.is("SIZE without CLOTH", x.cloth(-1, 2), 0);
        Due.is("SIZE told", x.told(0), 3);
        x.snip(0);
        Due.is("no CLOTH of it", x.told(0), 1);
        x.cloth(2, 3);
        int[] n = {-1, 2, -1, MIN, 0};
        int[] m = {2, -1, -1, 24, MIN};
        for (int k = 0; k < n.length; k++) {
            Due.is("SIZE", x.cloth(n[k], m[k]), 0);
            Due.is("SIZE told", x.told(0), 3);
            Due.is("stays", x.cell(1, 2), 0);
            Due.is("stays told", x.told(0), 0);
        }
        Due.is("SIZE in all", x.told(3), 6);
        x.cell(9, 9);
        int[] a = {25, 1, 25, -1, MAX, MIN};
        int[] b = {1, 25, -1, 25, MIN, MAX};
        for (int k = 0; k < a.length; k++) {
            Due.is("NONE ahead of SIZE", x.cloth(a[k], b[k]), NONE);
        }
        Due.is("the FAULT stays", x.told(0), 2);
        Due.is("no more of SIZE", x.told(3), 6);
        Due.is("the CLOTH stays", x.hang(0, 1), 3);
    }

    private static void snips() {
        HandLoom x = new HandLoom();
        Due.is("no CLOTH", x.snip(-1), 0);
        Due.is("MISSING ahead of OUTSIDE", x.told(0), 1);
        x.cloth(3, 2);
        Due.is("snip", x.snip(2), 1);
        Due.is("snip told", x.told(0), 0);
        Due.is("again", x.snip(2), 0);
        Due.is("is no FAULT", x.told(0), 0);
        Due.is("cell of it", x.cell(2, 0), 0);
        Due.is("MISSING", x.told(0), 1);
        Due.is("the next one is there", x.cell(1, 0), 0);
        Due.is("the next one told", x.told(0), 0);
        int[] outside = {-1, 3, 24, MIN, MAX};
        for (int p : outside) {
            Due.is("OUTSIDE", x.snip(p), 0);
            Due.is("OUTSIDE told", x.told(0), 2);
        }
    }

    private static void hangs() {
        HandLoom x = loom(2);
        x.cloth(4, 2);
        Due.is("hang", x.hang(0, 3), 2);
        Due.is("hang told", x.told(0), 0);
        x.weave(0, 3, 55);
        Due.is("the one's is the other's", x.cell(0, 1), 55);
        x.weave(0, 0, 66);
        Due.is("the other's is the one's", x.cell(3, 1), 66);
        Due.is("to itself", x.hang(3, 3), 2);
        Due.is("stays", x.cell(3, 1), 66);
        x.weave(0, 3, 77);
        Due.is("still the same", x.cell(0, 1), 77);
        Due.is("not the others", x.cell(1, 1), 0);
        x.cloth(2, 0);
        Due.is("without CELLS", x.hang(0, 1), 0);
        Due.is("without CELLS told", x.told(0), 0);
    }

    private static void hangsApart() {
        HandLoom x = loom(2);
        x.cloth(4, 2);
        x.hang(0, 1);
        x.hang(2, 0);
        x.weave(0, 1, 5);
        x.snip(1);
        Due.is("keeps its CELLS", x.cell(0, 1), 5);
        x.weave(0, 0, 6);
        Due.is("the others stay together", x.cell(2, 1), 6);
        Due.is("hung anew", x.hang(0, 3), 2);
        x.weave(0, 3, 8);
        Due.is("with the new one", x.cell(0, 1), 8);
        Due.is("not with the old one", x.cell(2, 1), 6);
        Due.is("to none", x.hang(2, 1), 0);
        Due.is("to none told", x.told(0), 0);
        x.cell(2, 0);
        Due.is("is none", x.told(0), 1);
        Due.is("a snipped one again", x.hang(1, 3), 2);
        Due.is("has its CELLS", x.cell(1, 1), 8);
        Due.is("is there", x.snip(1), 1);
    }

    private static void hangsWrong() {
        HandLoom x = new HandLoom();
        Due.is("no CLOTH", x.hang(-1, -1), 0);
        Due.is("MISSING", x.told(0), 1);
        x.cloth(2, 2);
        int[] outside = {-1, 2, MIN, MAX};
        for (int p : outside) {
            Due.is("OUTSIDE of p", x.hang(p, 0), 0);
            Due.is("OUTSIDE of p told", x.told(0), 2);
            x.snip(0);
            Due.is("OUTSIDE of q", x.hang(1, p), 0);
            Due.is("OUTSIDE of q told", x.told(0), 2);
            x.cloth(2, 2);
        }
        x.hang(5, 6);
        Due.is("once for both", x.told(2), 9);
        Due.is("p stays", x.snip(1), 1);
    }

    private static void cells() {
        HandLoom x = new HandLoom();
        x.cell(-1, -1);
        Due.is("no CLOTH", x.told(0), 1);
        x.cloth(2, 3);
        int[] wrongPicks = {-1, 2, MIN, MAX};
        int[] wrongCells = {-1, 3, 24, MIN, MAX};
        for (int p : wrongPicks) {
            Due.is("no PICK", x.cell(p, 0), 0);
            Due.is("no PICK told", x.told(0), 2);
        }
        for (int e : wrongCells) {
            x.ends(0, 0);
            Due.is("no CELL", x.cell(1, e), 0);
            Due.is("no CELL told", x.told(0), 2);
        }
        x.snip(1);
        x.cell(1, 9);
        Due.is("MISSING ahead of the CELL", x.told(0), 1);
        Due.is("a CELL", x.cell(0, 2), 0);
        Due.is("a CELL told", x.told(0), 0);
    }

    private static void weaves() {
        HandLoom x = loom(4);
        x.cloth(3, 4);
        Due.is("weave", x.weave(0, 1, -9), 4);
        Due.is("weave told", x.told(0), 0);
        int[] due = {100, -9, 102, -9};
        for (int e = 0; e < 4; e++) {
            Due.is("woven", x.cell(1, e), due[e]);
            Due.is("the PICK ahead", x.cell(0, e), 0);
            Due.is("one less", look(x, 0, LENGTH, e), 9);
            Due.is("YARN stays", look(x, 0, YARN, e), 100 + e);
            Due.is("LIFT stays", look(x, 0, LIFT, e), 1 - e % 2);
        }
        Due.is("to its end", x.told(9), 1);
        Due.is("again", x.weave(0, 1, 3), 4);
        Due.is("counts again", x.told(9), 2);
        lay(x, 0, LENGTH, 0, -32768);
        x.weave(0, 0, 1);
        Due.is("LENGTH round", look(x, 0, LENGTH, 0), 32767);
        lay(x, 0, YARN, 0, -1);
        x.weave(0, 0, 1);
        Due.is("the most of YARN", x.cell(0, 0), 65535);
    }

    private static void weavesUntilLiftLacks() {
        HandLoom x = loom(4);
        x.cloth(1, 4);
        x.thread(0, LIFT, 2);
        Due.is("two woven", x.weave(0, 0, 7), 2);
        Due.is("OUTSIDE", x.told(0), 2);
        Due.is("OUTSIDE counted", x.told(2), 1);
        Due.is("woven ahead stays", x.cell(0, 1), 7);
        Due.is("of this CELL nothing", x.cell(0, 2), 0);
        Due.is("LENGTH ahead", look(x, 0, LENGTH, 1), 9);
        Due.is("LENGTH here", look(x, 0, LENGTH, 2), 10);
        Due.is("not to its end", x.told(9), 0);
    }

    private static void weavesUntilYarnLacks() {
        HandLoom x = loom(6);
        x.cloth(1, 6);
        x.thread(0, YARN, 3);
        Due.is("a YARN that is not looked at", x.weave(0, 0, 7), 4);
        Due.is("OUTSIDE", x.told(0), 2);
        Due.is("CELL 3", x.cell(0, 3), 7);
        Due.is("CELL 4", x.cell(0, 4), 0);
        Due.is("LENGTH 4", look(x, 0, LENGTH, 4), 10);
        x.cut(0, YARN);
        Due.is("no YARN", x.weave(0, 0, 7), 0);
        Due.is("no YARN told", x.told(0), 1);
        x.thread(0, LIFT, 6);
        Due.is("all down", x.weave(0, 0, 7), 6);
        Due.is("all down told", x.told(0), 0);
        Due.is("to its end", x.told(9), 1);
    }

    private static void weavesUntilLengthLacks() {
        HandLoom x = loom(4);
        x.cloth(1, 4);
        x.thread(0, LENGTH, 2);
        Due.is("two woven", x.weave(0, 0, 7), 2);
        Due.is("OUTSIDE", x.told(0), 2);
        Due.is("CELL 1", x.cell(0, 1), 7);
        Due.is("CELL 2", x.cell(0, 2), 0);
        Due.is("LENGTH 1", look(x, 0, LENGTH, 1), -1);
        x.cut(0, LENGTH);
        Due.is("no LENGTH", x.weave(0, 0, 8), 0);
        Due.is("no LENGTH told", x.told(0), 1);
        Due.is("CELL 0 stays", x.cell(0, 0), 100);
        Due.is("none to its end", x.told(9), 0);
    }

    private static void weavesWithout() {
        HandLoom x = loom(3);
        x.cloth(1, 3);
        x.cut(0, LIFT);
        Due.is("no LIFT", x.weave(0, 0, 7), 0);
        Due.is("no LIFT told", x.told(0), 1);
        Due.is("MISSING counted once", x.told(1), 1);
        Due.is("CELL 0", x.cell(0, 0), 0);
        Due.is("another frame", x.weave(3, 0, 7), 0);
        Due.is("another frame told", x.told(0), 1);
        HandLoom y = loom(3);
        y.cloth(1, 3);
        y.thread(0, YARN, 0);
        y.cut(0, LENGTH);
        y.weave(0, 0, 7);
        Due.is("YARN ahead of LENGTH", y.told(0), 2);
        y.thread(0, LIFT, 0);
        y.cut(0, YARN);
        y.weave(0, 0, 7);
        Due.is("LIFT ahead of YARN", y.told(0), 2);
    }

    private static void weavesWrongPicks() {
        HandLoom x = loom(2);
        Due.is("no CLOTH", x.weave(0, -1, 7), 0);
        Due.is("no CLOTH told", x.told(0), 1);
        x.cloth(2, 2);
        int[] outside = {-1, 2, MIN, MAX};
        for (int p : outside) {
            Due.is("no PICK", x.weave(0, p, 7), 0);
            Due.is("no PICK told", x.told(0), 2);
        }
        x.snip(1);
        Due.is("snipped", x.weave(0, 1, 7), 0);
        Due.is("snipped told", x.told(0), 1);
        x.cell(7, 7);
        int[] frames = {-1, 4, MIN, MAX};
        for (int frame : frames) {
            Due.is("no frame", x.weave(frame, 0, 7), NONE);
            Due.is("no frame, no PICK", x.weave(frame, 9, 7), NONE);
        }
        Due.is("the FAULT stays", x.told(0), 2);
        Due.is("the LENGTH stays", look(x, 0, LENGTH, 0), 10);
        Due.is("none to its end", x.told(9), 0);
    }

    private static void weavesEmptyPicks() {
        HandLoom x = new HandLoom();
        x.cloth(1, 0);
        x.ends(0, 0);
        Due.is("no CELL to weave", x.weave(0, 0, 7), 0);
        Due.is("nothing lacks", x.told(0), 0);
        Due.is("to its end", x.told(9), 1);
    }

    private static void weavesTied() {
        HandLoom x = loom(3);
        x.cloth(2, 3);
        x.tie(1, YARN, 0);
        x.tie(1, LENGTH, 0);
        x.tie(1, LIFT, 0);
        Due.is("another frame", x.weave(1, 0, 4), 3);
        Due.is("its LENGTH is that one's", look(x, 0, LENGTH, 2), 9);
        Due.is("its YARN, too", x.cell(0, 2), 102);
    }

    private static void weavesAnyWeft() {
        HandLoom x = loom(2);
        x.cloth(1, 2);
        x.weave(0, 0, MAX);
        Due.is("MAX", x.cell(0, 1), MAX);
        x.weave(0, 0, MIN);
        x.ends(3, 3);
        Due.is("MIN", x.cell(0, 1), MIN);
        Due.is("a CELL that is there, no NONE", x.told(0), 0);
    }
}
