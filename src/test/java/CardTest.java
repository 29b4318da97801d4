/** Promises 14 to 17: card, unhook, keeper, run. */
public final class CardTest {
    private static final int NONE = HandLoom.NONE;
    private static final int MIN = Integer.MIN_VALUE;
    private static final int MAX = Integer.MAX_VALUE;

    public static void main(String[] args) {
        cards();
        cardsWrong();
        unhooks();
        keeper();
        keeperPassesEachKind();
        runs();
        runsRound();
        runsWrong();
        runEnds();
        runPassesOver();
        runSeesLanesAsTheyAre();
        Due.end();
    }

    private static void cards() {
        HandLoom x = new HandLoom();
        x.ends(0, 0);
        for (int k = 1; k <= 12; k++) {
            Due.is("card", x.card(k % 5, k % 4, k % 5, MIN + k, MAX - k), k);
            Due.is("cards told", x.told(7), k);
        }
        Due.is("a 13th", x.card(0, 0, 0, 0, 0), NONE);
        Due.is("12 told", x.told(7), 12);
        Due.is("card leaves the FAULT", x.told(0), 1);
        Due.is("card does nothing yet", x.told(1), 1);
    }

    private static void cardsWrong() {
        HandLoom x = new HandLoom();
        int[] kinds = {-1, 5, MIN, MAX, 0, 0, 0, 0, 0, 0};
        int[] frames = {0, 0, 0, 0, -1, 4, MIN, 0, 0, 0};
        int[] lanes = {0, 0, 0, 0, 0, 0, 0, -1, 5, MAX};
        for (int k = 0; k < kinds.length; k++) {
            Due.is("no such card", x.card(kinds[k], frames[k], lanes[k], 0, 0), NONE);
        }
        Due.is("none came", x.told(7), 0);
        Due.is("the most of each", x.card(4, 3, 4, 0, 1), 1);
    }

    private static void unhooks() {
        HandLoom x = new HandLoom();
        x.thread(0, 0, 2);
        x.card(3, 0, 0, 0, 0);
        x.card(3, 0, 0, 0, 0);
        x.act(0, 0, 0, 7, 0);
        Due.is("unhook", x.unhook(), 2);
        Due.is("unhook leaves the FAULT", x.told(0), 2);
        Due.is("all go", x.told(7), 0);
        Due.is("again", x.unhook(), 0);
        Due.is("no CARDS to run", x.run(1), NONE);
        Due.is("the first one again", x.card(3, 0, 0, 1, 0), 1);
        Due.is("run", x.run(1), 1);
        Due.is("the new one was done", x.act(0, 0, 0, 1, 0), 1);
        Due.is("the old one not", x.act(0, 0, 0, 0, 0), 0);
    }

    private static void keeper() {
        HandLoom x = new HandLoom();
        int[] right = {0, 2, 4, 8, 16, 32, 62, 34};
        int[] wrong = {1, 64, 63, -1, MIN, MAX, 128, 3, -2};
        for (int mask : right) {
            Due.is("keeper(" + mask + ")", x.keeper(mask), true);
        }
        for (int mask : wrong) {
            Due.is("keeper(" + mask + ")", x.keeper(mask), false);
        }
        x.card(0, 0, 0, 0, 0);
        Due.is("34 stays: MISSING is passed over", x.run(1), 1);
        Due.is("keeper(63) changes nothing", x.keeper(63 - 2), false);
        Due.is("still passed over", x.run(1), 1);
        Due.is("keeper(0)", x.keeper(0), true);
        Due.is("from now on not", x.run(1), 0);
        x.ends(0, 0);
        x.keeper(62);
        Due.is("keeper leaves the FAULT", x.told(0), 1);
        x.act(0, 0, 0, 0, 0);
        Due.is("an ACT without CARD tells its FAULT", x.told(0), 1);
    }

    /** A loom with one CARD that has a FAULT of a kind whenever it is done. */
    private static HandLoom faulty(int kind) {
        HandLoom x = new HandLoom();
        x.thread(0, 0, 1);
        switch (kind) {
            case 1 -> x.card(0, 1, 0, 0, 0);
            case 2 -> x.card(0, 0, 0, 1, 0);
            case 4 -> x.card(1, 0, 0, 0, 0);
            default -> x.card(4, 0, 0, 0, 0);
        }
        return x;
    }

    private static void keeperPassesEachKind() {
        int[] kinds = {1, 2, 4, 5};
        for (int kind : kinds) {
            HandLoom x = faulty(kind);
            x.keeper(62 - (1 << kind));
            Due.is("all others passed over", x.run(3), 0);
            Due.is("told", x.told(0), kind);
            Due.is("counted", x.told(kind), 1);
            x.keeper(1 << kind);
            Due.is("this one passed over", x.run(3), 3);
            Due.is("is not told", x.told(0), 0);
            Due.is("is counted", x.told(kind), 4);
        }
    }

    private static void runs() {
        HandLoom x = new HandLoom();
        x.thread(0, 0, 3);
        x.thread(1, 1, 3);
        x.spool(40);
        x.spool(-50);
        x.card(1, 0, 0, 0, 0);
        x.card(2, 1, 1, 2, 0);
        x.card(3, 0, 0, 0, 0);
        x.card(4, 1, 1, 2, 7);
        x.card(0, 0, 0, 0, 0);
        Due.is("run 5", x.run(5), 5);
        Due.is("run told", x.told(0), 0);
        Due.is("added up", x.told(8), 40 - 50 + 41 - 7 + 41);
        Due.is("LAY and TURN", x.act(0, 0, 0, 0, 0), 41);
        Due.is("PULL and PART", x.act(0, 1, 1, 2, 0), -7);
        Due.is("drawn", x.told(6), 0);
        Due.is("the CARDS stay", x.told(7), 5);
        Due.is("an act() is not added", x.told(8), 65);
    }

    private static void runsRound() {
        HandLoom x = new HandLoom();
        x.thread(0, 0, 2);
        x.card(3, 0, 0, 0, 0);
        x.card(3, 0, 0, 1, 0);
        Due.is("three of two", x.run(3), 3);
        Due.is("the first one twice", x.act(0, 0, 0, 0, 0), 2);
        Due.is("the second one once", x.act(0, 0, 0, 1, 0), 1);
        Due.is("from the first one again", x.run(1), 1);
        Due.is("three times", x.act(0, 0, 0, 0, 0), 3);
        Due.is("of the latest alone", x.told(8), 3);
        Due.is("twelve of two", x.run(12), 12);
        Due.is("nine times", x.act(0, 0, 0, 0, 0), 9);
        Due.is("seven times", x.act(0, 0, 0, 1, 0), 7);
        HandLoom y = new HandLoom();
        y.thread(0, 0, 12);
        for (int k = 0; k < 12; k++) {
            y.card(3, 0, 0, k, 0);
        }
        Due.is("fewer than there are", y.run(5), 5);
        Due.is("the fifth", y.act(0, 0, 0, 4, 0), 1);
        Due.is("not the sixth", y.act(0, 0, 0, 5, 0), 0);
        Due.is("all", y.run(12), 12);
        Due.is("the twelfth", y.act(0, 0, 0, 11, 0), 1);
    }

    private static void runsWrong() {
        HandLoom x = new HandLoom();
        x.thread(0, 0, 1);
        Due.is("no CARDS", x.run(1), NONE);
        x.card(3, 0, 0, 0, 0);
        x.run(2);
        x.act(0, 0, 0, 1, 0);
        int[] wrong = {0, -1, 13, MIN, MAX};
        for (int n : wrong) {
            Due.is("run(" + n + ")", x.run(n), NONE);
        }
        Due.is("NONE leaves the FAULT", x.told(0), 2);
        Due.is("NONE leaves the sum", x.told(8), 3);
        Due.is("NONE does nothing", x.act(0, 0, 0, 0, 0), 2);
        x.unhook();
        Due.is("no CARDS any more", x.run(1), NONE);
        Due.is("the sum stays", x.told(8), 3);
    }

    private static void runEnds() {
        HandLoom x = new HandLoom();
        x.thread(0, 0, 1);
        x.card(3, 0, 0, 0, 0);
        x.card(3, 0, 0, 0, 0);
        x.card(3, 0, 0, 1, 0);
        x.card(3, 0, 0, 0, 0);
        Due.is("two done", x.run(4), 2);
        Due.is("the FAULT that ended it", x.told(0), 2);
        Due.is("added up till then", x.told(8), 3);
        Due.is("none behind it was done", x.act(0, 0, 0, 0, 0), 2);
        Due.is("ahead of it", x.run(2), 2);
        Due.is("without a FAULT", x.told(0), 0);
        x.cut(0, 0);
        Due.is("none done", x.run(4), 0);
        Due.is("none done told", x.told(0), 1);
        Due.is("none added up", x.told(8), 0);
    }

    private static void runPassesOver() {
        HandLoom x = new HandLoom();
        x.thread(0, 0, 1);
        x.keeper(1 << 2);
        x.card(3, 0, 0, 0, 0);
        x.card(3, 0, 0, 1, 0);
        x.card(3, 0, 0, 0, 0);
        x.card(4, 0, 0, 0, 0);
        Due.is("counts as done", x.run(3), 3);
        Due.is("told as none", x.told(0), 0);
        Due.is("counted", x.told(2), 1);
        Due.is("it adds 0", x.told(8), 3);
        Due.is("ended by another", x.run(4), 3);
        Due.is("which is told", x.told(0), 5);
        Due.is("a run that ends with one passed over", x.run(2), 2);
        Due.is("is told as none", x.told(0), 0);
        HandLoom y = new HandLoom();
        y.keeper(1 << 1);
        y.spool(1);
        y.spool(2);
        y.card(1, 0, 0, 0, 0);
        Due.is("LAY with MISSING passed over", y.run(3), 2);
        Due.is("till the THREADS are gone", y.told(0), 4);
        Due.is("MISSING in all", y.told(1), 2);
        Due.is("EMPTY in all", y.told(4), 1);
    }

    private static void runSeesLanesAsTheyAre() {
        HandLoom x = new HandLoom();
        x.thread(0, 0, 1);
        x.thread(1, 0, 1);
        x.card(3, 0, 0, 0, 0);
        x.tie(0, 0, 1);
        x.run(1);
        Due.is("the lane that was tied", x.act(0, 1, 0, 0, 0), 1);
        x.thread(0, 0, 1);
        x.run(2);
        Due.is("the lane threaded anew", x.act(0, 0, 0, 0, 0), 2);
        Due.is("not the old one", x.act(0, 1, 0, 0, 0), 1);
    }
}
