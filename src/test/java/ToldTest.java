/** Promise 18: told. */
public final class ToldTest {
    private static final int NONE = HandLoom.NONE;

    public static void main(String[] args) {
        otherWhats();
        clearedByEach();
        keptByOthers();
        countsInAll();
        sumOfRun();
        woven();
        Due.end();
    }

    private static void otherWhats() {
        HandLoom x = new HandLoom();
        x.ends(0, 0);
        int[] wrong = {-1, 10, 11, Integer.MIN_VALUE, Integer.MAX_VALUE};
        for (int what : wrong) {
            Due.is("told(" + what + ")", x.told(what), NONE);
        }
        Due.is("told changes nothing", x.told(0), 1);
        Due.is("told changes nothing", x.told(1), 1);
    }

    /** A loom on which every call of clears() goes without a FAULT, and whose latest had one. */
    private static HandLoom faulty() {
        HandLoom x = new HandLoom();
        for (int lane = 0; lane < 5; lane++) {
            x.thread(0, lane, 2);
        }
        x.cloth(2, 2);
        x.card(0, 0, 0, 0, 0);
        x.thread(0, 0, -1);
        Due.is("a FAULT", x.told(0), 3);
        return x;
    }

    private static void clears(HandLoom x, int call) {
        switch (call) {
            case 0 -> x.thread(0, 0, 2);
            case 1 -> x.tie(0, 0, 1);
            case 2 -> x.ends(0, 0);
            case 3 -> x.act(0, 0, 0, 0, 0);
            case 4 -> x.swap(0, 0, 0, 1);
            case 5 -> x.cloth(2, 2);
            case 6 -> x.snip(0);
            case 7 -> x.hang(0, 1);
            case 8 -> x.cell(0, 0);
            case 9 -> x.weave(0, 0, 1);
            default -> x.run(1);
        }
    }

    private static void clearedByEach() {
        for (int call = 0; call <= 10; call++) {
            HandLoom x = faulty();
            clears(x, call);
            Due.is("cleared by call " + call, x.told(0), 0);
            Due.is("SIZE in all", x.told(3), 1);
        }
    }

    private static void keptByOthers() {
        HandLoom x = faulty();
        x.cut(0, 4);
        x.spool(1);
        x.card(0, 0, 0, 0, 0);
        x.unhook();
        x.keeper(4);
        x.told(5);
        Due.is("kept by cut, spool, card, unhook, keeper, told", x.told(0), 3);
        x.thread(0, 0, 25);
        x.tie(0, 0, 4);
        x.ends(0, 5);
        x.act(5, 0, 0, 0, 0);
        x.swap(4, 0, 0, 0);
        x.cloth(25, 0);
        x.weave(4, 0, 0);
        x.run(1);
        Due.is("kept by what is NONE", x.told(0), 3);
    }

    private static void countsInAll() {
        HandLoom x = new HandLoom();
        x.thread(0, 0, 1);
        for (int k = 0; k < 3; k++) {
            x.ends(1, 0);
        }
        for (int k = 0; k < 4; k++) {
            x.act(0, 0, 0, 1, 0);
        }
        for (int k = 0; k < 5; k++) {
            x.cloth(-1, 0);
        }
        for (int k = 0; k < 6; k++) {
            x.act(2, 0, 0, 0, 0);
        }
        for (int k = 0; k < 7; k++) {
            x.act(4, 0, 0, 0, 0);
        }
        int[] due = {5, 3, 4, 5, 6, 7, 0, 0, 0, 0};
        for (int what = 0; what <= 9; what++) {
            Due.is("told(" + what + ")", x.told(what), due[what]);
        }
    }

    private static void sumOfRun() {
        HandLoom x = new HandLoom();
        x.thread(0, 0, 1);
        x.spool(-1);
        x.act(1, 0, 0, 0, 0);
        for (int k = 0; k < 12; k++) {
            x.card(0, 0, 0, 0, 0);
        }
        x.run(12);
        Due.is("12 times the most", x.told(8), 12 * 65535);
        x.run(1);
        Due.is("the latest alone", x.told(8), 65535);
        x.spool(1);
        Due.is("THREADS", x.told(6), 1);
        Due.is("CARDS", x.told(7), 12);
    }

    private static void woven() {
        HandLoom x = new HandLoom();
        x.thread(0, 1, 2);
        x.thread(0, 3, 2);
        x.cloth(2, 2);
        x.weave(0, 0, 1);
        x.weave(0, 1, 1);
        x.weave(0, 1, 1);
        Due.is("three to their ends", x.told(9), 3);
        x.cloth(2, 3);
        x.weave(0, 0, 1);
        x.weave(0, 5, 1);
        Due.is("none with a FAULT", x.told(9), 3);
    }
}
