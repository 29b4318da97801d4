import java.util.function.ToIntFunction;

/** Each sentence of promise 18 that names a boundary case. */
public final class ToldEdgeTest {
    private static final int NONE = HandLoom.NONE;
    private static final int MIN = Integer.MIN_VALUE;
    private static final int MAX = Integer.MAX_VALUE;
    private static final int YARN = 0;
    private static final int LENGTH = 1;
    private static final int LIFT = 3;
    private static final int LAY = 1;
    private static final int PULL = 2;
    private static final int TURN = 3;
    private static final int PART = 4;
    private static final int MISSING = 1;
    private static final int OUTSIDE = 2;
    private static final int SIZE = 3;
    private static final int EMPTY = 4;
    private static final int ZERO = 5;

    public static void main(String[] args) {
        latestFault();
        latestThatWasNoNone();
        noFault();
        faultThatEndedTheRun();
        faultsInAll();
        threads();
        cards();
        latestRun();
        wovenPicks();
        noSuchWhat();
        Due.end();
    }

    /** Frame 0 has 2 ENDS of each sort; one CARD, a TURN; CLOTH of 2 by 2; latest FAULT ZERO. */
    private static HandLoom faulty() {
        HandLoom x = Hand.threaded(2);
        x.card(TURN, 0, YARN, 0, 0);
        x.cloth(2, 2);
        x.act(PART, 0, YARN, 0, 0);
        return x;
    }

    private static void tells(String call, ToIntFunction<HandLoom> made, int fault) {
        HandLoom x = faulty();
        made.applyAsInt(x);
        Due.is(call + " told", x.told(0), fault);
        Due.is(call + " told again", x.told(0), fault);
    }

    private static void latestFault() {
        Due.sentence("What 0: the FAULT of the latest thread(), tie(), ends(), act(), swap(),"
            + " cloth(), snip(), hang(), cell(), weave() or run()");
        tells("thread", x -> x.thread(1, YARN, -1), SIZE);
        tells("ends", x -> x.ends(1, YARN), MISSING);
        tells("act", x -> x.act(LAY, 0, YARN, 0, 0), EMPTY);
        tells("swap", x -> x.swap(0, YARN, 0, 2), OUTSIDE);
        tells("cloth", x -> x.cloth(-1, 0), SIZE);
        tells("snip", x -> x.snip(2), OUTSIDE);
        tells("hang", x -> x.hang(0, 2), OUTSIDE);
        tells("cell", x -> x.cell(0, 2), OUTSIDE);
        tells("weave", x -> x.weave(1, 0, 1), MISSING);
        tells("run", x -> x.unhook() + x.card(PULL, 0, YARN, 0, 0) + x.run(1), EMPTY);
        tells("cut", x -> x.cut(0, YARN), ZERO);
        tells("cut of none", x -> x.cut(1, YARN), ZERO);
        tells("spool", x -> x.spool(1), ZERO);
        tells("card", x -> x.card(LAY, 1, YARN, 0, 0), ZERO);
        tells("unhook", x -> x.unhook(), ZERO);
        tells("keeper", x -> x.keeper(62) ? 1 : 0, ZERO);
        tells("told", x -> x.told(1), ZERO);
    }

    private static void latestThatWasNoNone() {
        Due.sentence("that was no NONE");
        tells("thread", x -> x.thread(0, YARN, 25), ZERO);
        tells("cut", x -> x.cut(4, YARN), ZERO);
        tells("tie", x -> x.tie(0, YARN, 4), ZERO);
        tells("ends", x -> x.ends(0, 5), ZERO);
        tells("act", x -> x.act(5, 0, YARN, 0, 0), ZERO);
        tells("swap", x -> x.swap(-1, YARN, 0, 0), ZERO);
        tells("cloth", x -> x.cloth(25, -1), ZERO);
        tells("weave", x -> x.weave(4, 9, 0), ZERO);
        tells("card", x -> x.card(5, 0, YARN, 0, 0), ZERO);
        tells("run", x -> x.run(13), ZERO);
        tells("run of no CARDS", x -> x.unhook() + x.run(1), ZERO);
        tells("told", x -> x.told(10), ZERO);
        HandLoom y = Hand.threaded(1);
        y.cloth(1, 1);
        y.weave(0, 0, MIN);
        y.ends(1, YARN);
        Due.fine("a CELL that has -2147483648", y, y.cell(0, 0), MIN);
    }

    private static void noFault() {
        Due.sentence("(0 without one, or before;");
        Due.is("before", new HandLoom().told(0), 0);
        tells("thread", x -> x.thread(1, YARN, 0), 0);
        tells("tie", x -> x.tie(1, YARN, 0), 0);
        tells("tie to none", x -> x.tie(0, YARN, 1), 0);
        tells("ends", x -> x.ends(0, YARN), 0);
        tells("act", x -> x.act(TURN, 0, YARN, 0, 0), 0);
        tells("swap", x -> x.swap(0, YARN, 0, 0), 0);
        tells("cloth", x -> x.cloth(0, 0), 0);
        tells("snip", x -> x.snip(0), 0);
        tells("snip of none", x -> x.snip(0) + x.act(PART, 0, YARN, 0, 0) + x.snip(0), 0);
        tells("hang", x -> x.hang(0, 1), 0);
        tells("hang to none", x -> x.snip(1) + x.act(PART, 0, YARN, 0, 0) + x.hang(0, 1), 0);
        tells("cell", x -> x.cell(1, 1), 0);
        tells("weave", x -> x.weave(0, 0, 1), 0);
        tells("run", x -> x.run(1), 0);
    }

    private static void faultThatEndedTheRun() {
        Due.sentence("of run() that which ended it)");
        HandLoom x = Hand.threaded(1);
        x.keeper(1 << EMPTY);
        x.card(PULL, 0, YARN, 0, 0);
        Due.fine("passed over, the last one", x, x.run(1), 1);
        x.card(PART, 0, YARN, 0, 0);
        Due.is("passed over, then ended", x.run(12), 1);
        Due.is("told", x.told(0), ZERO);
        x.unhook();
        x.card(TURN, 0, YARN, 0, 0);
        x.card(LAY, 0, YARN, 0, 0);
        Due.fine("done", x, x.run(12), 12);
    }

    private static void faultsInAll() {
        Due.sentence("1 .. 5: how many FAULTS of that kind there were in all (those passed over,"
            + " too);");
        HandLoom x = Hand.threaded(1);
        int[] due = new int[6];
        for (int round = 0; round < 3; round++) {
            x.ends(1, YARN);
            due[MISSING]++;
            due = counted(x, due);
            x.act(TURN, 0, YARN, 1, 0);
            due[OUTSIDE]++;
            due = counted(x, due);
            x.thread(0, YARN, -1);
            due[SIZE]++;
            due = counted(x, due);
            x.act(LAY, 0, YARN, 0, 0);
            due[EMPTY]++;
            due = counted(x, due);
            x.act(PART, 0, YARN, 0, 0);
            due[ZERO]++;
            due = counted(x, due);
            x.ends(0, YARN);
            due = counted(x, due);
        }
        x.card(PULL, 0, YARN, 0, 0);
        x.card(PART, 0, YARN, 0, 0);
        x.run(12);
        due[EMPTY]++;
        due = counted(x, due);
        x.keeper(1 << EMPTY | 1 << ZERO);
        x.run(12);
        due[EMPTY] += 6;
        due[ZERO] += 6;
        counted(x, due);
        x.cloth(1, 2);
        x.weave(0, 0, 1);
        due[OUTSIDE]++;
        counted(x, due);
    }

    private static int[] counted(HandLoom x, int[] due) {
        for (int fault = 1; fault <= 5; fault++) {
            Due.is("told(" + fault + ")", x.told(fault), due[fault]);
        }
        return due;
    }

    private static void threads() {
        Due.sentence("6: THREADS on the SPOOL;");
        HandLoom x = Hand.threaded(1);
        Due.is("none", x.told(6), 0);
        for (int k = 1; k <= 17; k++) {
            x.spool(k);
            Due.is("spool " + k, x.told(6), Math.min(k, 16));
        }
        for (int k = 15; k >= -1; k--) {
            x.act(PULL, 0, YARN, 0, 0);
            Due.is("drawn", x.told(6), Math.max(k, 0));
        }
    }

    private static void cards() {
        Due.sentence("7: CARDS;");
        HandLoom x = Hand.threaded(1);
        Due.is("none", x.told(7), 0);
        for (int k = 1; k <= 13; k++) {
            x.card(TURN, 0, YARN, 0, 0);
            Due.is("card " + k, x.told(7), Math.min(k, 12));
        }
        x.run(12);
        Due.is("run", x.told(7), 12);
        x.unhook();
        Due.is("unhooked", x.told(7), 0);
    }

    /** Twelve answers stay far from wrapping: the most is 12 * 65535. */
    private static void latestRun() {
        Due.sentence("8: what the ACTS of the latest run() that was no NONE answered, added up"
            + " (wrapping; 0 before);");
        HandLoom x = Hand.threaded(1);
        Due.is("before", x.told(8), 0);
        x.run(1);
        Due.is("only a NONE before", x.told(8), 0);
        Hand.lay(x, 0, YARN, 0, -1);
        x.card(0, 0, YARN, 0, 0);
        Due.is("run", x.run(12), 12);
        Due.is("the most", x.told(8), 12 * 65535);
        x.run(0);
        x.run(13);
        Due.is("behind a NONE", x.told(8), 12 * 65535);
        x.act(TURN, 0, YARN, 0, 0);
        Due.is("behind an act", x.told(8), 12 * 65535);
        x.act(PART, 0, YARN, 0, 0);
        Due.is("behind a FAULT", x.told(8), 12 * 65535);
        x.unhook();
        x.run(1);
        Due.is("behind a NONE of no CARDS", x.told(8), 12 * 65535);
        Hand.lay(x, 0, LENGTH, 0, -32768);
        x.card(0, 0, LENGTH, 0, 0);
        x.run(12);
        Due.is("the least, of the latest alone", x.told(8), -12 * 32768);
        x.card(PART, 0, LENGTH, 0, 0);
        x.run(12);
        Due.is("up to what ended it", x.told(8), -32768);
        x.unhook();
        x.card(PART, 0, LENGTH, 0, 0);
        x.run(1);
        Due.is("none was done", x.told(8), 0);
    }

    private static void wovenPicks() {
        Due.sentence("9: how many PICKS were woven to their ends.");
        HandLoom x = Hand.threaded(2);
        Due.is("none", x.told(9), 0);
        x.weave(0, 0, 1);
        Due.is("no CLOTH", x.told(9), 0);
        x.cloth(2, 2);
        x.weave(0, 0, 1);
        Due.is("one", x.told(9), 1);
        x.weave(0, 0, 1);
        Due.is("it again", x.told(9), 2);
        x.weave(4, 0, 1);
        Due.is("a NONE", x.told(9), 2);
        x.weave(0, 2, 1);
        Due.is("no such PICK", x.told(9), 2);
        x.thread(0, LIFT, 1);
        x.weave(0, 1, 1);
        Due.is("not to its end", x.told(9), 2);
        x.cloth(1, 0);
        x.weave(3, 0, 1);
        Due.is("of no CELLS", x.told(9), 3);
        x.snip(0);
        x.weave(0, 0, 1);
        Due.is("snipped", x.told(9), 3);
    }

    private static void noSuchWhat() {
        Due.sentence("NONE for another what.");
        HandLoom x = faulty();
        int[] none = {-1, 10, 11, MIN, MAX};
        for (int what : none) {
            Due.is("told(" + what + ")", x.told(what), NONE);
        }
        Due.is("the FAULT stays", x.told(0), ZERO);
    }
}
