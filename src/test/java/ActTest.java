/** Promises 6 to 8: spool, act, swap. */
public final class ActTest {
    private static final int NONE = HandLoom.NONE;
    private static final int MIN = Integer.MIN_VALUE;
    private static final int MAX = Integer.MAX_VALUE;
    private static final int LOOK = 0;
    private static final int LAY = 1;
    private static final int PULL = 2;
    private static final int TURN = 3;
    private static final int PART = 4;

    public static void main(String[] args) {
        spool();
        spoolOrder();
        lays();
        pulls();
        turns();
        parts();
        partsOfLift();
        partsByZero();
        tensionRounds();
        tensionIsHeld();
        tensionFades();
        faultOrder();
        faultsOutside();
        noSuchAct();
        swaps();
        swapsWrong();
        Due.end();
    }

    private static void spool() {
        HandLoom x = new HandLoom();
        x.ends(0, 0);
        for (int k = 1; k <= 16; k++) {
            Due.is("spool", x.spool(k), k);
        }
        Due.is("full", x.spool(17), NONE);
        Due.is("full, told", x.told(6), 16);
        Due.is("spool leaves the FAULT", x.told(0), 1);
        x.thread(0, 0, 1);
        for (int k = 1; k <= 16; k++) {
            Due.is("drawn in order", x.act(LAY, 0, 0, 0, 0), k);
        }
        Due.is("none left", x.act(LAY, 0, 0, 0, 0), 0);
        Due.is("none left told", x.told(0), 4);
        Due.is("stays", x.act(LOOK, 0, 0, 0, 0), 16);
    }

    private static void spoolOrder() {
        HandLoom x = new HandLoom();
        x.thread(0, 0, 1);
        int put = 0;
        int drawn = 0;
        for (int round = 0; round < 20; round++) {
            Due.is("two behind", x.spool(++put), put - drawn);
            Due.is("two behind", x.spool(++put), put - drawn);
            if (put - drawn > 12 || round % 3 != 0) {
                Due.is("the first", x.act(LAY, 0, 0, 0, 0), ++drawn);
                Due.is("the first", x.act(LAY, 0, 0, 0, 0), ++drawn);
            }
        }
        Due.is("left", x.told(6), put - drawn);
    }

    private static int laid(int lane, int v) {
        HandLoom x = new HandLoom();
        x.thread(1, lane, 3);
        x.spool(v);
        int told = x.act(LAY, 1, lane, 2, 77);
        Due.is("looked at after LAY", x.act(LOOK, 1, lane, 2, 77), told);
        Due.is("its neighbour", x.act(LOOK, 1, lane, 1, 77), 0);
        Due.is("drawn", x.told(6), 0);
        return told;
    }

    private static int pulled(int lane, int has, int v) {
        HandLoom x = new HandLoom();
        x.thread(1, lane, 3);
        x.spool(has);
        x.spool(v);
        x.act(LAY, 1, lane, 2, 0);
        int told = x.act(PULL, 1, lane, 2, 77);
        Due.is("looked at after PULL", x.act(LOOK, 1, lane, 2, 77), told);
        Due.is("drawn", x.told(6), 0);
        return told;
    }

    private static int turned(int lane, int has) {
        HandLoom x = new HandLoom();
        x.thread(1, lane, 3);
        x.spool(has);
        x.spool(5);
        x.act(LAY, 1, lane, 2, 0);
        int told = x.act(TURN, 1, lane, 2, 77);
        Due.is("looked at after TURN", x.act(LOOK, 1, lane, 2, 77), told);
        Due.is("not drawn", x.told(6), 1);
        return told;
    }

    private static int parted(int lane, int has, int v) {
        HandLoom x = new HandLoom();
        x.thread(1, lane, 3);
        x.spool(has);
        x.spool(5);
        x.act(LAY, 1, lane, 2, 0);
        int told = x.act(PART, 1, lane, 2, v);
        Due.is("parted told", x.told(0), 0);
        Due.is("looked at after PART", x.act(LOOK, 1, lane, 2, 77), told);
        Due.is("not drawn", x.told(6), 1);
        return told;
    }

    private static void lays() {
        int[] v =       {0, 1, -1,    65535, 65536, 32767, 32768,  -32768, -32769, 127, 128,  255, 256, -128,  -129,  MIN, MAX};
        int[] yarn =    {0, 1, 65535, 65535, 0,     32767, 32768,  32768,  32767,  127, 128,  255, 256, 65408, 65407, 0,   65535};
        int[] length =  {0, 1, -1,    -1,    0,     32767, -32768, -32768, 32767,  127, 128,  255, 256, -128,  -129,  0,   -1};
        int[] tension = {0, 1, -1,    32768, 32768, 32767, 32768,  -32768, -32768, 127, 128,  255, 256, -128,  -129,  -32768, 32768};
        int[] lift =    {0, 1, 1,     1,     0,     1,     0,      0,      1,      1,   0,    1,   0,   0,     1,     0,   1};
        int[] dye =     {0, 1, -1,    -1,    0,     -1,    0,      0,      -1,     127, -128, -1,  0,   -128,  127,   0,   -1};
        for (int k = 0; k < v.length; k++) {
            Due.is("YARN LAY " + v[k], laid(0, v[k]), yarn[k]);
            Due.is("LENGTH LAY " + v[k], laid(1, v[k]), length[k]);
            Due.is("TENSION LAY " + v[k], laid(2, v[k]), tension[k]);
            Due.is("LIFT LAY " + v[k], laid(3, v[k]), lift[k]);
            Due.is("DYE LAY " + v[k], laid(4, v[k]), dye[k]);
        }
    }

    private static void pulls() {
        Due.is("YARN up", pulled(0, 65535, 1), 0);
        Due.is("YARN down", pulled(0, 0, -1), 65535);
        Due.is("YARN MAX", pulled(0, 65535, MAX), 65534);
        Due.is("YARN MIN", pulled(0, 7, MIN), 7);
        Due.is("LENGTH up", pulled(1, 32767, 1), -32768);
        Due.is("LENGTH down", pulled(1, -32768, -1), 32767);
        Due.is("LENGTH MAX", pulled(1, 32767, MAX), 32766);
        Due.is("LENGTH MIN", pulled(1, -5, MIN), -5);
        Due.is("DYE up", pulled(4, 127, 1), -128);
        Due.is("DYE down", pulled(4, -128, -1), 127);
        Due.is("DYE by 300", pulled(4, 0, 300), 44);
        Due.is("LIFT odd, up", pulled(3, 1, 3), 0);
        Due.is("LIFT odd, down", pulled(3, 0, -3), 1);
        Due.is("LIFT even, up", pulled(3, 1, MIN), 1);
        Due.is("LIFT even, down", pulled(3, 0, 2), 0);
        Due.is("TENSION", pulled(2, 100, -30), 70);
        Due.is("TENSION below", pulled(2, -32760, -9), -32768);
        Due.is("TENSION above", pulled(2, 32760, 9), 32768);
        Due.is("TENSION: what is pulled by is not HELD", pulled(2, -32768, 65536), 32768);
        Due.is("TENSION: nor below", pulled(2, 32768, -40000), -7232);
    }

    private static void turns() {
        Due.is("YARN", turned(0, 41), 42);
        Due.is("YARN round", turned(0, 65535), 0);
        Due.is("LENGTH round", turned(1, 32767), -32768);
        Due.is("LENGTH", turned(1, -1), 0);
        Due.is("DYE round", turned(4, 127), -128);
        Due.is("DYE", turned(4, -128), -127);
        Due.is("LIFT up", turned(3, 0), 1);
        Due.is("LIFT down", turned(3, 1), 0);
        Due.is("TENSION", turned(2, -3), 5);
        Due.is("TENSION held", turned(2, 32767), 32768);
        Due.is("TENSION at the most", turned(2, 32768), 32768);
        Due.is("TENSION at the least", turned(2, -32768), -32760);
    }

    private static void parts() {
        Due.is("YARN", parted(0, 65535, 2), 32767);
        Due.is("YARN by -1", parted(0, 65535, -1), 1);
        Due.is("YARN by -2", parted(0, 7, -2), 65533);
        Due.is("YARN by MIN", parted(0, 65535, MIN), 0);
        Due.is("LENGTH cut towards 0", parted(1, -7, 2), -3);
        Due.is("LENGTH cut towards 0", parted(1, 7, -2), -3);
        Due.is("LENGTH least by -1", parted(1, -32768, -1), -32768);
        Due.is("LENGTH by MAX", parted(1, -32768, MAX), 0);
        Due.is("DYE", parted(4, -127, 10), -12);
        Due.is("DYE least by -1", parted(4, -128, -1), -128);
        Due.is("TENSION", parted(2, 100, 3), 33);
        Due.is("TENSION cut towards 0", parted(2, -100, 3), -33);
        Due.is("TENSION by -1", parted(2, 32768, -1), -32768);
        Due.is("TENSION by MIN", parted(2, 32768, MIN), 0);
    }

    private static void partsOfLift() {
        Due.is("up by odd", parted(3, 1, 3), 1);
        Due.is("up by -1", parted(3, 1, -1), 1);
        Due.is("up by even", parted(3, 1, 2), 0);
        Due.is("up by 0", parted(3, 1, 0), 0);
        Due.is("down by odd", parted(3, 0, 1), 0);
        Due.is("down by 0", parted(3, 0, 0), 0);
    }

    private static void partsByZero() {
        int[] lanes = {0, 1, 2, 4};
        for (int lane : lanes) {
            HandLoom x = new HandLoom();
            Due.is("MISSING ahead of ZERO", x.act(PART, 2, lane, 0, 0), 0);
            Due.is("MISSING ahead of ZERO told", x.told(0), 1);
            x.thread(2, lane, 1);
            Due.is("OUTSIDE ahead of ZERO", x.act(PART, 2, lane, 1, 0), 0);
            Due.is("OUTSIDE ahead of ZERO told", x.told(0), 2);
            Due.is("0 by ZERO", x.act(PART, 2, lane, 0, 0), 0);
            Due.is("0 by ZERO told", x.told(0), 5);
            x.spool(9);
            x.act(LAY, 2, lane, 0, 0);
            Due.is("9 by ZERO", x.act(PART, 2, lane, 0, 0), 0);
            Due.is("9 by ZERO told", x.told(0), 5);
            Due.is("9 stays", x.act(LOOK, 2, lane, 0, 0), 9);
            Due.is("two ZEROS", x.told(5), 2);
        }
    }

    private static HandLoom tension(int v) {
        HandLoom x = new HandLoom();
        x.thread(0, 2, 1);
        x.spool(v);
        x.act(LAY, 0, 2, 0, 0);
        return x;
    }

    private static int pull(HandLoom x, int v) {
        x.spool(v);
        return x.act(PULL, 0, 2, 0, 0);
    }

    /** A sum shows its last digits where it stands at a whole number of eighths or just not. */
    private static void tensionRounds() {
        HandLoom x = tension(8);
        x.act(PART, 0, 2, 0, 1 << 25);
        Due.is("-1 and 2^-25: of two the even one", pull(x, -8), -8);
        HandLoom y = tension(24);
        y.act(PART, 0, 2, 0, 1 << 26);
        Due.is("-1 and 3 * 2^-26: the nearest", pull(y, -8), -7);
        HandLoom z = tension(8);
        z.act(PART, 0, 2, 0, 1 << 26);
        Due.is("-1 and 2^-26: the nearest", pull(z, -8), -8);
        HandLoom w = tension(-8);
        w.act(PART, 0, 2, 0, 1 << 26);
        w.act(TURN, 0, 2, 0, 0);
        Due.is("a TURN to the nearest, too", w.act(LOOK, 0, 2, 0, 0), 8);
        quotientRounds();
        divisorRounds();
    }

    private static void quotientRounds() {
        HandLoom x = tension(8);
        x.act(PART, 0, 2, 0, 3);
        Due.is("a third", x.act(LOOK, 0, 2, 0, 0), 2);
        Due.is("a third and 1/8", pull(x, 1), 3);
        HandLoom y = tension(8);
        y.act(PART, 0, 2, 0, 1 << 23);
        pull(y, 12);
        y.act(PART, 0, 2, 0, 3);
        y.act(PART, 0, 2, 0, 1 << 24);
        Due.is("1.5 + 2^-23 by 3: the nearest is above a half", pull(y, -8), -7);
    }

    private static void divisorRounds() {
        HandLoom x = tension(8);
        x.act(PART, 0, 2, 0, 1 << 23);
        x.act(TURN, 0, 2, 0, 0);
        x.act(PART, 0, 2, 0, (1 << 24) + 1);
        Due.is("2^24 + 1 parts as 2^24", pull(x, -16), -15);
        HandLoom y = tension(16);
        y.act(PART, 0, 2, 0, 1 << 23);
        y.act(TURN, 0, 2, 0, 0);
        y.act(PART, 0, 2, 0, (1 << 24) + 3);
        Due.is("2^24 + 3 parts as 2^24 + 4", pull(y, -16), -16);
    }

    private static void tensionIsHeld() {
        HandLoom x = tension(40000);
        Due.is("more is 4096", x.act(LOOK, 0, 2, 0, 0), 32768);
        Due.is("and no more than that", pull(x, -8), 32760);
        Due.is("pulled above", pull(x, MAX), 32768);
        Due.is("and back", pull(x, -32768), 0);
        Due.is("pulled below", pull(x, MIN), -32768);
        Due.is("and back", pull(x, 32767), -1);
        HandLoom y = tension(-40000);
        Due.is("less is -4096", y.act(LOOK, 0, 2, 0, 0), -32768);
        Due.is("and no less than that", pull(y, 8), -32760);
    }

    private static void tensionFades() {
        HandLoom x = tension(-32768);
        for (int k = 0; k < 8; k++) {
            Due.is("ever less", x.act(PART, 0, 2, 0, MAX), 0);
            Due.is("ever less told", x.told(0), 0);
        }
        Due.is("and 3", pull(x, 3), 3);
    }

    private static void faultOrder() {
        for (int lane = 0; lane < 5; lane++) {
            HandLoom x = new HandLoom();
            x.act(LAY, 0, lane, -1, 0);
            Due.is("LAY: EMPTY ahead of MISSING", x.told(0), 4);
            x.act(PULL, 0, lane, -1, 0);
            Due.is("PULL: MISSING ahead of EMPTY", x.told(0), 1);
            x.thread(0, lane, 2);
            x.act(LAY, 0, lane, 2, 0);
            Due.is("LAY: EMPTY ahead of OUTSIDE", x.told(0), 4);
            x.act(PULL, 0, lane, 2, 0);
            Due.is("PULL: OUTSIDE ahead of EMPTY", x.told(0), 2);
            Due.is("PULL: EMPTY", x.act(PULL, 0, lane, 1, 0), 0);
            Due.is("PULL: EMPTY told", x.told(0), 4);
            Due.is("MISSING in all", x.told(1), 1);
            Due.is("OUTSIDE in all", x.told(2), 1);
            Due.is("EMPTY in all", x.told(4), 3);
        }
    }

    private static void faultsOutside() {
        int[] outside = {-1, 2, MIN, MAX};
        for (int lane = 0; lane < 5; lane++) {
            HandLoom x = new HandLoom();
            x.thread(0, lane, 2);
            for (int i : outside) {
                for (int kind = 0; kind <= 4; kind++) {
                    x.spool(3);
                    int before = x.told(6);
                    Due.is("OUTSIDE", x.act(kind, 0, lane, i, 1), 0);
                    Due.is("OUTSIDE told", x.told(0), 2);
                    Due.is("gone with LAY alone", x.told(6), kind == LAY ? before - 1 : before);
                    x.act(LAY, 1, lane, 0, 0);
                    Due.is("LAY where none is THREADED", x.told(0), kind == LAY ? 4 : 1);
                    Due.is("gone with MISSING, too", x.told(6), 0);
                }
            }
            Due.is("END 0 untouched", x.act(LOOK, 0, lane, 0, 0), 0);
            Due.is("END 1 untouched", x.act(LOOK, 0, lane, 1, 0), 0);
        }
    }

    private static void noSuchAct() {
        HandLoom x = new HandLoom();
        x.spool(1);
        x.ends(0, 0);
        int[] kinds = {-1, 5, MIN, MAX, 1, 1, 1, 1};
        int[] frames = {0, 0, 0, 0, -1, 4, 0, 0};
        int[] lanes = {0, 0, 0, 0, 0, 0, -1, 5};
        for (int k = 0; k < kinds.length; k++) {
            Due.is("no such act", x.act(kinds[k], frames[k], lanes[k], 0, 0), NONE);
        }
        Due.is("nothing is drawn", x.told(6), 1);
        Due.is("the FAULT stays", x.told(0), 1);
        Due.is("no more FAULTS", x.told(1), 1);
    }

    private static void swaps() {
        int[] first = {5, 5, 5, 1, 5};
        int[] second = {65534, -2, -2, 0, -2};
        for (int lane = 0; lane < 5; lane++) {
            HandLoom x = new HandLoom();
            x.thread(2, lane, 24);
            x.spool(5);
            x.spool(-2);
            x.act(LAY, 2, lane, 0, 0);
            x.act(LAY, 2, lane, 23, 0);
            Due.is("swap", x.swap(2, lane, 0, 23), first[lane]);
            Due.is("swap told", x.told(0), 0);
            Due.is("the one", x.act(LOOK, 2, lane, 0, 0), second[lane]);
            Due.is("the other", x.act(LOOK, 2, lane, 23, 0), first[lane]);
            Due.is("with itself", x.swap(2, lane, 23, 23), first[lane]);
            Due.is("stays", x.act(LOOK, 2, lane, 23, 0), first[lane]);
            Due.is("the first one's", x.swap(2, lane, 23, 0), first[lane]);
            Due.is("back", x.act(LOOK, 2, lane, 0, 0), first[lane]);
        }
        HandLoom y = tension(1);
        y.thread(1, 2, 2);
        y.spool(1);
        y.act(LAY, 1, 2, 0, 0);
        y.act(PART, 1, 2, 0, 2);
        y.swap(1, 2, 0, 1);
        y.spool(-1);
        Due.is("swapped with all its digits", y.act(PULL, 1, 2, 1, 0), 0);
        y.spool(-1);
        Due.is("-1.5 eighths", y.act(PULL, 1, 2, 1, 0), -1);
    }

    private static void swapsWrong() {
        HandLoom x = new HandLoom();
        Due.is("MISSING", x.swap(0, 0, -1, 0), 0);
        Due.is("MISSING ahead of OUTSIDE", x.told(0), 1);
        x.thread(0, 0, 2);
        x.act(TURN, 0, 0, 0, 0);
        int[] outside = {-1, 2, MIN, MAX};
        for (int i : outside) {
            Due.is("OUTSIDE of the first", x.swap(0, 0, i, 0), 0);
            Due.is("OUTSIDE of the first told", x.told(0), 2);
            x.ends(0, 0);
            Due.is("OUTSIDE of the second", x.swap(0, 0, 0, i), 0);
            Due.is("OUTSIDE of the second told", x.told(0), 2);
        }
        Due.is("OUTSIDE of both counts once", x.swap(0, 0, 2, 3), 0);
        Due.is("OUTSIDE in all", x.told(2), 9);
        Due.is("no frame", x.swap(4, 0, 0, 0), NONE);
        Due.is("no frame", x.swap(-1, 0, 0, 0), NONE);
        Due.is("no lane", x.swap(0, 5, 0, 0), NONE);
        Due.is("no lane", x.swap(0, -1, 0, 0), NONE);
        Due.is("the FAULT stays", x.told(0), 2);
        Due.is("END 0 stays", x.act(LOOK, 0, 0, 0, 0), 1);
    }
}
