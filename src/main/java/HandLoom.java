import java.util.ArrayList;
import java.util.Arrays;

/**
 * A hand loom: warp lanes of five sorts that may be unthreaded, a spool, cloth woven end by end
 * until something lacks, cards that work it.
 */
public final class HandLoom {
    /** There is none such, or it can't be. */
    public static final int NONE = -2147483648;

    private static final int FRAMES = 4;
    private static final int SORTS = 5;
    private static final int YARN = 0;
    private static final int LENGTH = 1;
    private static final int TENSION = 2;
    private static final int LIFT = 3;

    private static final int LOOK = 0;
    private static final int LAY = 1;
    private static final int PULL = 2;
    private static final int TURN = 3;
    private static final int PART = 4;

    private static final int NO_FAULT = 0;
    private static final int MISSING = 1;
    private static final int OUTSIDE = 2;
    private static final int SIZE = 3;
    private static final int EMPTY = 4;
    private static final int ZERO = 5;
    private static final int KEEPER_BITS = 0b111110;

    private static final int MOST_ENDS = 24;
    private static final int MOST_PICKS = 24;
    private static final int MOST_CELLS = 24;
    private static final int MOST_THREADS = 16;
    private static final int MOST_CARDS = 12;
    private static final int MOST_TENSION = 4096;
    private static final int EIGHTHS = 8;

    /** By frame, then sort; null where a lane is not threaded; tied lanes are one object. */
    private final Lane[] lanes = new Lane[FRAMES * SORTS];
    private final Spool threads = new Spool();
    private final ArrayList<Card> cards = new ArrayList<>();
    private final FaultBook faults = new FaultBook();
    /** Null while there is no cloth; made once, since new cloth leaves nothing of the old. */
    private Cloth fabric;
    private int passedOver;
    private int latestRunSum;
    private int wovenPicks;

    public HandLoom() {
    }

    public int thread(int frame, int lane, int n) {
        if (!isLane(frame, lane) || n > MOST_ENDS) {
            return NONE;
        }
        if (n < 0) {
            return failed(SIZE);
        }
        lanes[placeOf(frame, lane)] = newLane(lane, n);
        return done(n);
    }

    public int cut(int frame, int lane) {
        if (!isLane(frame, lane)) {
            return NONE;
        }
        int place = placeOf(frame, lane);
        int was = lanes[place] == null ? 0 : 1;
        lanes[place] = null;
        return was;
    }

    public int tie(int frame, int lane, int other) {
        if (!isLane(frame, lane) || !isFrame(other)) {
            return NONE;
        }
        Lane shared = lanes[placeOf(other, lane)];
        lanes[placeOf(frame, lane)] = shared;
        return done(shared == null ? 0 : shared.size());
    }

    public int ends(int frame, int lane) {
        if (!isLane(frame, lane)) {
            return NONE;
        }
        Lane asked = lanes[placeOf(frame, lane)];
        return asked == null ? failed(MISSING) : done(asked.size());
    }

    public int spool(int v) {
        return threads.add(v) ? threads.size() : NONE;
    }

    public int act(int kind, int frame, int lane, int i, int v) {
        if (!isKind(kind) || !isLane(frame, lane)) {
            return NONE;
        }
        return doAct(kind, lanes[placeOf(frame, lane)], i, v);
    }

    public int swap(int frame, int lane, int i, int j) {
        if (!isLane(frame, lane)) {
            return NONE;
        }
        Lane asked = lanes[placeOf(frame, lane)];
        if (asked == null) {
            return failed(MISSING);
        }
        if (!asked.hasEnd(i) || !asked.hasEnd(j)) {
            return failed(OUTSIDE);
        }
        int before = asked.tells(i);
        asked.trade(i, j);
        return done(before);
    }

    public int cloth(int n, int m) {
        if (n > MOST_PICKS || m > MOST_CELLS) {
            return NONE;
        }
        if (n < 0 || m < 0) {
            return failed(SIZE);
        }
        if (fabric == null) {
            fabric = new Cloth();
        }
        fabric.begin(n, m);
        return done(n * m);
    }

    public int snip(int p) {
        int fault = faultOfPlace(p);
        if (fault != NO_FAULT) {
            return failed(fault);
        }
        int was = fabric.hasPick(p) ? 1 : 0;
        fabric.remove(p);
        return done(was);
    }

    public int hang(int p, int q) {
        int fault = faultOfPlace(q);
        if (fault == NO_FAULT) {
            fault = faultOfPlace(p);
        }
        if (fault != NO_FAULT) {
            return failed(fault);
        }
        fabric.join(p, q);
        return done(fabric.hasPick(p) ? fabric.cellCount() : 0);
    }

    public int cell(int p, int e) {
        int fault = faultOfPick(p);
        if (fault != NO_FAULT) {
            return failed(fault);
        }
        if (!fabric.hasCell(e)) {
            return failed(OUTSIDE);
        }
        return done(fabric.get(p, e));
    }

    public int weave(int frame, int p, int weft) {
        if (!isFrame(frame)) {
            return NONE;
        }
        int fault = faultOfPick(p);
        if (fault != NO_FAULT) {
            return failed(fault);
        }
        int count = fabric.cellCount();
        for (int e = 0; e < count; e++) {
            fault = weaveOne(frame, p, e, weft);
            if (fault != NO_FAULT) {
                faults.note(fault);
                return e;
            }
        }
        wovenPicks++;
        return done(count);
    }

    public int card(int kind, int frame, int lane, int i, int v) {
        if (!isKind(kind) || !isLane(frame, lane) || cards.size() >= MOST_CARDS) {
            return NONE;
        }
        cards.add(new Card(kind, placeOf(frame, lane), i, v));
        return cards.size();
    }

    public int unhook() {
        int were = cards.size();
        cards.clear();
        return were;
    }

    public boolean keeper(int mask) {
        if ((mask & ~KEEPER_BITS) != 0) {
            return false;
        }
        passedOver = mask;
        return true;
    }

    public int run(int n) {
        int hooked = cards.size();
        if (n < 1 || n > MOST_CARDS || hooked == 0) {
            return NONE;
        }
        latestRunSum = 0;
        for (int doneCards = 0; doneCards < n; doneCards++) {
            Card next = cards.get(doneCards % hooked);
            latestRunSum += doAct(next.kind, lanes[next.place], next.end, next.v);
            if (endsRun(faults.latest())) {
                return doneCards;
            }
        }
        return done(n);
    }

    public int told(int what) {
        switch (what) {
            case 0:
                return faults.latest();
            case MISSING:
            case OUTSIDE:
            case SIZE:
            case EMPTY:
            case ZERO:
                return faults.count(what);
            case 6:
                return threads.size();
            case 7:
                return cards.size();
            case 8:
                return latestRunSum;
            case 9:
                return wovenPicks;
            default:
                return NONE;
        }
    }

    private static boolean isFrame(int frame) {
        return frame >= 0 && frame < FRAMES;
    }

    private static boolean isLane(int frame, int lane) {
        return isFrame(frame) && lane >= 0 && lane < SORTS;
    }

    private static boolean isKind(int kind) {
        return kind >= LOOK && kind <= PART;
    }

    /** For a frame and a sort that are some. */
    private static int placeOf(int frame, int sort) {
        return frame * SORTS + sort;
    }

    private static Lane newLane(int sort, int n) {
        if (sort == TENSION) {
            return new TensionLane(n);
        }
        if (sort == LIFT) {
            return new LiftLane(n);
        }
        return new NumberLane(sort, n);
    }

    private int done(int answer) {
        faults.note(NO_FAULT);
        return answer;
    }

    private int failed(int fault) {
        faults.note(fault);
        return 0;
    }

    private boolean endsRun(int fault) {
        return fault != NO_FAULT && (passedOver >> fault & 1) == 0;
    }

    private static int faultOfEnd(Lane lane, int i) {
        if (lane == null) {
            return MISSING;
        }
        return lane.hasEnd(i) ? NO_FAULT : OUTSIDE;
    }

    private int faultOfPlace(int p) {
        if (fabric == null) {
            return MISSING;
        }
        return fabric.hasPlace(p) ? NO_FAULT : OUTSIDE;
    }

    private int faultOfPick(int p) {
        int fault = faultOfPlace(p);
        if (fault != NO_FAULT) {
            return fault;
        }
        return fabric.hasPick(p) ? NO_FAULT : MISSING;
    }

    private int doAct(int kind, Lane lane, int i, int v) {
        // LAY alone draws before it looks for the END, so the THREAD is gone with a later FAULT.
        if (kind == LAY) {
            return doLay(lane, i);
        }
        int fault = faultOfEnd(lane, i);
        if (fault != NO_FAULT) {
            return failed(fault);
        }
        switch (kind) {
            case PULL:
                return doPull(lane, i);
            case TURN:
                lane.pull(i, lane.oneMore());
                return done(lane.tells(i));
            case PART:
                return doPart(lane, i, v);
            default:
                return done(lane.tells(i));
        }
    }

    private int doLay(Lane lane, int i) {
        if (threads.isEmpty()) {
            return failed(EMPTY);
        }
        int v = threads.draw();
        int fault = faultOfEnd(lane, i);
        if (fault != NO_FAULT) {
            return failed(fault);
        }
        lane.lay(i, v);
        return done(lane.tells(i));
    }

    private int doPull(Lane lane, int i) {
        if (threads.isEmpty()) {
            return failed(EMPTY);
        }
        lane.pull(i, threads.draw());
        return done(lane.tells(i));
    }

    private int doPart(Lane lane, int i, int v) {
        return lane.part(i, v) ? done(lane.tells(i)) : failed(ZERO);
    }

    /** Weaves one CELL of a PICK that is there; the FAULT that kept it from changing anything. */
    private int weaveOne(int frame, int p, int e, int weft) {
        Lane lift = lanes[placeOf(frame, LIFT)];
        int fault = faultOfEnd(lift, e);
        if (fault != NO_FAULT) {
            return fault;
        }
        int woven = weft;
        if (lift.tells(e) == 1) {
            Lane yarn = lanes[placeOf(frame, YARN)];
            fault = faultOfEnd(yarn, e);
            if (fault != NO_FAULT) {
                return fault;
            }
            woven = yarn.tells(e);
        }
        Lane length = lanes[placeOf(frame, LENGTH)];
        fault = faultOfEnd(length, e);
        if (fault != NO_FAULT) {
            return fault;
        }
        length.pull(e, -1);
        fabric.set(p, e, woven);
        return NO_FAULT;
    }

    /** A threaded lane. But for hasEnd, its methods are asked only of ENDS that it has. */
    private abstract static class Lane {
        abstract int size();

        abstract int tells(int i);

        abstract void lay(int i, int v);

        abstract void pull(int i, int v);

        /** False, changing nothing, if v can't part it. */
        abstract boolean part(int i, int v);

        abstract void trade(int i, int j);

        /** What to pull by for one more. */
        int oneMore() {
            return 1;
        }

        boolean hasEnd(int i) {
            return i >= 0 && i < size();
        }
    }

    /** A lane of YARN, LENGTH or DYE. */
    private static final class NumberLane extends Lane {
        private final int sort;
        private final int[] numbers;

        NumberLane(int sort, int n) {
            this.sort = sort;
            this.numbers = new int[n];
        }

        int size() {
            return numbers.length;
        }

        int tells(int i) {
            return numbers[i];
        }

        void lay(int i, int v) {
            numbers[i] = wrapped(v);
        }

        void pull(int i, int v) {
            numbers[i] = wrapped(numbers[i] + v);
        }

        boolean part(int i, int v) {
            if (v == 0) {
                return false;
            }
            numbers[i] = wrapped(numbers[i] / v);
            return true;
        }

        void trade(int i, int j) {
            int kept = numbers[i];
            numbers[i] = numbers[j];
            numbers[j] = kept;
        }

        private int wrapped(int v) {
            if (sort == YARN) {
                return (char) v;
            }
            if (sort == LENGTH) {
                return (short) v;
            }
            return (byte) v;
        }
    }

    private static final class LiftLane extends Lane {
        private final boolean[] up;

        LiftLane(int n) {
            this.up = new boolean[n];
        }

        int size() {
            return up.length;
        }

        int tells(int i) {
            return up[i] ? 1 : 0;
        }

        void lay(int i, int v) {
            up[i] = isOdd(v);
        }

        void pull(int i, int v) {
            up[i] = up[i] != isOdd(v);
        }

        boolean part(int i, int v) {
            up[i] = up[i] && isOdd(v);
            return true;
        }

        void trade(int i, int j) {
            boolean kept = up[i];
            up[i] = up[j];
            up[j] = kept;
        }

        private static boolean isOdd(int v) {
            return (v & 1) == 1;
        }
    }

    private static final class TensionLane extends Lane {
        private final float[] tensions;

        TensionLane(int n) {
            this.tensions = new float[n];
        }

        int size() {
            return tensions.length;
        }

        int tells(int i) {
            return (int) (tensions[i] * EIGHTHS);
        }

        void lay(int i, int v) {
            tensions[i] = held(eighths(v));
        }

        void pull(int i, int v) {
            tensions[i] = held(tensions[i] + eighths(v));
        }

        boolean part(int i, int v) {
            if (v == 0) {
                return false;
            }
            tensions[i] = held(tensions[i] / (float) v);
            return true;
        }

        void trade(int i, int j) {
            float kept = tensions[i];
            tensions[i] = tensions[j];
            tensions[j] = kept;
        }

        int oneMore() {
            return EIGHTHS;
        }

        private static float eighths(int v) {
            return (float) v / EIGHTHS;
        }

        private static float held(float tension) {
            if (tension < -MOST_TENSION) {
                return -MOST_TENSION;
            }
            return tension > MOST_TENSION ? MOST_TENSION : tension;
        }
    }

    /** The THREADS in a ring, so that drawing the first one moves no other. */
    private static final class Spool {
        private final int[] ring = new int[MOST_THREADS];
        private int first;
        private int count;

        int size() {
            return count;
        }

        boolean isEmpty() {
            return count == 0;
        }

        boolean add(int v) {
            if (count >= MOST_THREADS) {
                return false;
            }
            ring[(first + count) % MOST_THREADS] = v;
            count++;
            return true;
        }

        /** Asked only when it is not empty. */
        int draw() {
            int v = ring[first];
            first = (first + 1) % MOST_THREADS;
            count--;
            return v;
        }
    }

    /** PICKS by the rows that hold their CELLS: PICKS that hang together have one row. */
    private static final class Cloth {
        private static final int NO_ROW = -1;

        private final int[][] rows = new int[MOST_PICKS][MOST_CELLS];
        private final int[] rowOf = new int[MOST_PICKS];
        private int places;
        private int cells;

        void begin(int n, int m) {
            places = n;
            cells = m;
            for (int p = 0; p < n; p++) {
                rowOf[p] = p;
                Arrays.fill(rows[p], 0);
            }
        }

        int cellCount() {
            return cells;
        }

        boolean hasPlace(int p) {
            return p >= 0 && p < places;
        }

        boolean hasPick(int p) {
            return hasPlace(p) && rowOf[p] != NO_ROW;
        }

        boolean hasCell(int e) {
            return e >= 0 && e < cells;
        }

        /** Of a place that it has, as join(). */
        void remove(int p) {
            rowOf[p] = NO_ROW;
        }

        void join(int p, int q) {
            rowOf[p] = rowOf[q];
        }

        /** Of a PICK and a CELL that it has, as set(). */
        int get(int p, int e) {
            return rows[rowOf[p]][e];
        }

        void set(int p, int e, int v) {
            rows[rowOf[p]][e] = v;
        }
    }

    /** An ACT that waits: at the lane of a place, whatever is threaded there when it is done. */
    private static final class Card {
        private final int kind;
        private final int place;
        private final int end;
        private final int v;

        Card(int kind, int place, int end, int v) {
            this.kind = kind;
            this.place = place;
            this.end = end;
            this.v = v;
        }
    }

    private static final class FaultBook {
        private final int[] counts = new int[ZERO + 1];
        private int latest;

        void note(int fault) {
            latest = fault;
            if (fault >= MISSING && fault <= ZERO) {
                counts[fault]++;
            }
        }

        int latest() {
            return latest;
        }

        int count(int fault) {
            return fault >= MISSING && fault <= ZERO ? counts[fault] : 0;
        }
    }
}
