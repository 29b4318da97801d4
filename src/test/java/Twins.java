import java.util.function.ToIntFunction;

/**
 * Two looms worked alike. A call is made on the one alone; what it changed shows when both are
 * asked the same from then on.
 */
final class Twins {
    private static final int ENDS = 3;

    private final String call;
    private final int threads;
    private final HandLoom one;
    private final HandLoom other;

    private Twins(String call, int threads) {
        this.call = call;
        this.threads = threads;
        this.one = worked(threads);
        this.other = worked(threads);
    }

    /** The call answers NONE, nothing happens, and there is no FAULT. */
    static void refused(String call, int threads, ToIntFunction<HandLoom> made) {
        Twins twins = new Twins(call, threads);
        // A FAULT ahead of it, which told(0) has to go on telling.
        twins.bothAnswer("LOOK at no END", x -> Hand.look(x, 0, 0, ENDS));
        Due.is(call, made.applyAsInt(twins.one), HandLoom.NONE);
        for (int what = 0; what <= 5; what++) {
            twins.sameTold(what);
        }
        twins.sameRest();
    }

    /** The call answers 0, and changes nothing but where its FAULT is told. */
    static void faulty(String call, int threads, int fault, ToIntFunction<HandLoom> made) {
        Twins twins = new Twins(call, threads);
        Due.fault(call, twins.one, made.applyAsInt(twins.one), fault);
        for (int kind = 1; kind <= 5; kind++) {
            int more = kind == fault ? 1 : 0;
            Due.is(call + ", then told(" + kind + ")", twins.one.told(kind) - more,
                twins.other.told(kind));
        }
        twins.sameRest();
    }

    /**
     * Frame 0 has 3 ENDS of each sort, frame 1 is tied to it, frame 2 has 0 ENDS of each, frame 3
     * none; of three PICKS the first two hang together, and the last one is snipped; MISSING and
     * EMPTY are passed over. There was no FAULT: one that changes more than it may would else have
     * done so to both already.
     */
    private static HandLoom worked(int threads) {
        HandLoom x = new HandLoom();
        for (int lane = 0; lane < 5; lane++) {
            x.thread(0, lane, ENDS);
            x.tie(1, lane, 0);
            x.thread(2, lane, 0);
            Hand.lay(x, 0, lane, 0, 5);
            Hand.lay(x, 0, lane, 1, 90);
            Hand.lay(x, 0, lane, 2, -33);
        }
        x.cloth(3, ENDS);
        x.weave(0, 0, 777);
        x.hang(1, 0);
        x.snip(2);
        x.card(3, 0, 0, 2, 0);
        x.card(4, 1, 1, 1, 2);
        x.run(2);
        x.keeper(1 << 1 | 1 << 4);
        for (int k = 0; k < threads; k++) {
            x.spool(1000 + k);
        }
        return x;
    }

    /** What has no FAULT is asked first, for the same reason. */
    private void sameRest() {
        for (int what = 6; what <= 9; what++) {
            sameTold(what);
        }
        sameLanes(0, 1);
        sameCells(0, 1, ENDS - 1);
        sameThreads(threads);
        sameCards();
        sameTies();
        sameHanging();
        sameKeeper();
        sameLanes(2, 3);
        sameCells(0, 3, ENDS);
        sameThreads(1);
    }

    private void bothAnswer(String asked, ToIntFunction<HandLoom> asks) {
        int due = asks.applyAsInt(other);
        Due.is(call + ", then " + asked, asks.applyAsInt(one), due);
    }

    private void sameTold(int what) {
        bothAnswer("told(" + what + ")", x -> x.told(what));
    }

    private void sameLanes(int first, int last) {
        for (int frame = first; frame <= last; frame++) {
            for (int lane = 0; lane < 5; lane++) {
                int f = frame;
                int l = lane;
                String at = "(" + f + ", " + l + ")";
                bothAnswer("ends" + at, x -> x.ends(f, l));
                bothAnswer("the FAULT of ends" + at, x -> x.told(0));
                for (int k = 0; k < ENDS; k++) {
                    int i = k;
                    bothAnswer("END " + i + " of " + at, x -> Hand.look(x, f, l, i));
                }
            }
        }
    }

    private void sameCells(int first, int last, int lastCell) {
        for (int k = first; k <= last; k++) {
            int p = k;
            for (int c = 0; c <= lastCell; c++) {
                int e = c;
                bothAnswer("cell(" + p + ", " + e + ")", x -> x.cell(p, e));
                bothAnswer("the FAULT of cell(" + p + ", " + e + ")", x -> x.told(0));
            }
        }
    }

    private void sameThreads(int draws) {
        for (int k = 0; k < draws; k++) {
            bothAnswer("the next THREAD", x -> x.act(1, 0, 0, 0, 0));
        }
    }

    private void sameCards() {
        bothAnswer("run(12)", x -> x.run(12));
        sameTold(8);
        bothAnswer("unhook()", HandLoom::unhook);
    }

    private void sameTies() {
        for (int k = 0; k < 5; k++) {
            int lane = k;
            bothAnswer("TURN in frame 0", x -> Hand.turn(x, 0, lane, 0));
            bothAnswer("END 0 of frame 1", x -> Hand.look(x, 1, lane, 0));
        }
    }

    private void sameHanging() {
        bothAnswer("weave", x -> x.weave(0, 0, 888));
        sameCells(0, 1, ENDS - 1);
    }

    /** With no THREAD left. SIZE is no FAULT of an ACT, so that its bit shows nowhere. */
    private void sameKeeper() {
        sameRunOf("MISSING", 0, 3, 0);
        sameRunOf("OUTSIDE", 0, 0, 24);
        sameRunOf("EMPTY", 1, 0, 0);
        sameRunOf("ZERO", 4, 0, 0);
    }

    private void sameRunOf(String fault, int kind, int frame, int i) {
        bothAnswer("a CARD of " + fault, x -> x.card(kind, frame, 0, i, 0));
        bothAnswer("a run of " + fault, x -> x.run(1));
        bothAnswer("unhook()", HandLoom::unhook);
    }
}
