/** A hand loom as the document's promises 1 to 18 tell it; the words of its 'Terms' are used here as they are there. */
public final class HandLoom {
    public static final int NONE = -2147483648;

    private static final int FRAMES = 4;
    private static final int SORTS = 5;
    private static final int MOST_ENDS = 24;
    private static final int MOST_THREADS = 16;
    private static final int MOST_PICKS = 24;
    private static final int MOST_CELLS = 24;
    private static final int MOST_CARDS = 12;

    private static final int YARN = 0;
    private static final int LENGTH = 1;
    private static final int TENSION = 2;
    private static final int LIFT = 3;

    private static final int LOOK = 0;
    private static final int LAY = 1;
    private static final int PULL = 2;
    private static final int TURN = 3;
    private static final int PART = 4;

    private static final int NO_FAULT = 0;
    private static final int MISSING = 1;
    private static final int OUTSIDE = 2;
    private static final int SIZE = 3;
    private static final int EMPTY = 4;
    private static final int ZERO = 5;

    private static final int KEEPER_BITS = 62;

    private final Warp warp = new Warp();
    private final Spool threads = new Spool();
    private final Cloth fabric = new Cloth();
    private final Deck deck = new Deck();
    private final Ledger ledger = new Ledger();
    private int passedOver = 0;
    private int runSum = 0;
    private int wovenToEnd = 0;

    public HandLoom() {
    }

    public int thread(int frame, int lane, int n) {
        if (!Warp.isLane(frame, lane) || n > MOST_ENDS) {
            return NONE;
        }
        ledger.begin();
        if (n < 0) {
            return ledger.tell(SIZE);
        }
        warp.stretch(frame, lane, n);
        return n;
    }

    public int cut(int frame, int lane) {
        if (!Warp.isLane(frame, lane)) {
            return NONE;
        }
        boolean was = warp.laneAt(frame, lane) != null;
        warp.loosen(frame, lane);
        return was ? 1 : 0;
    }

    public int tie(int frame, int lane, int other) {
        if (!Warp.isLane(frame, lane) || !Warp.isFrame(other)) {
            return NONE;
        }
        ledger.begin();
        warp.join(frame, lane, other);
        Lane tied = warp.laneAt(frame, lane);
        return tied == null ? 0 : tied.count();
    }

    public int ends(int frame, int lane) {
        if (!Warp.isLane(frame, lane)) {
            return NONE;
        }
        ledger.begin();
        Lane asked = warp.laneAt(frame, lane);
        return asked == null ? ledger.tell(MISSING) : asked.count();
    }

    public int spool(int v) {
        if (threads.isFull()) {
            return NONE;
        }
        threads.wind(v);
        return threads.count();
    }

    public int act(int kind, int frame, int lane, int i, int v) {
        if (!isAct(kind) || !Warp.isLane(frame, lane)) {
            return NONE;
        }
        return work(kind, warp.laneAt(frame, lane), i, v);
    }

    public int swap(int frame, int lane, int i, int j) {
        if (!Warp.isLane(frame, lane)) {
            return NONE;
        }
        ledger.begin();
        Lane held = warp.laneAt(frame, lane);
        if (held == null) {
            return ledger.tell(MISSING);
        }
        if (!held.has(i) || !held.has(j)) {
            return ledger.tell(OUTSIDE);
        }
        int before = held.tells(i);
        held.exchange(i, j);
        return before;
    }

    public int cloth(int n, int m) {
        if (n > MOST_PICKS || m > MOST_CELLS) {
            return NONE;
        }
        ledger.begin();
        if (n < 0 || m < 0) {
            return ledger.tell(SIZE);
        }
        fabric.renew(n, m);
        return n * m;
    }

    public int snip(int p) {
        ledger.begin();
        int fault = fabric.placeFault(p);
        if (fault != NO_FAULT) {
            return ledger.tell(fault);
        }
        boolean was = fabric.hasPick(p);
        fabric.drop(p);
        return was ? 1 : 0;
    }

    public int hang(int p, int q) {
        ledger.begin();
        int fault = fabric.placeFault(q);
        if (fault == NO_FAULT) {
            fault = fabric.placeFault(p);
        }
        if (fault != NO_FAULT) {
            return ledger.tell(fault);
        }
        fabric.join(p, q);
        return fabric.hasPick(p) ? fabric.width() : 0;
    }

    public int cell(int p, int e) {
        ledger.begin();
        int fault = fabric.pickFault(p);
        if (fault == NO_FAULT && !fabric.hasCell(e)) {
            fault = OUTSIDE;
        }
        return fault == NO_FAULT ? fabric.get(p, e) : ledger.tell(fault);
    }

    public int weave(int frame, int p, int weft) {
        if (!Warp.isFrame(frame)) {
            return NONE;
        }
        ledger.begin();
        int pickFault = fabric.pickFault(p);
        if (pickFault != NO_FAULT) {
            return ledger.tell(pickFault);
        }
        for (int e = 0; e < fabric.width(); e++) {
            int fault = weaveCell(frame, p, e, weft);
            if (fault != NO_FAULT) {
                ledger.tell(fault);
                return e;
            }
        }
        wovenToEnd++;
        return fabric.width();
    }

    public int card(int kind, int frame, int lane, int i, int v) {
        if (!isAct(kind) || !Warp.isLane(frame, lane) || deck.isFull()) {
            return NONE;
        }
        deck.add(kind, frame, lane, i, v);
        return deck.count();
    }

    public int unhook() {
        int were = deck.count();
        deck.clear();
        return were;
    }

    public boolean keeper(int mask) {
        if ((mask & ~KEEPER_BITS) != 0) {
            return false;
        }
        passedOver = mask;
        return true;
    }

    public int run(int n) {
        if (n < 1 || n > MOST_CARDS || deck.count() == 0) {
            return NONE;
        }
        runSum = 0;
        for (int done = 0; done < n; done++) {
            Card next = deck.at(done % deck.count());
            runSum += work(next.kind, warp.laneAt(next.frame, next.sort), next.end, next.v);
            if (isEndedBy(ledger.latest())) {
                return done;
            }
        }
        // A fault of the last card that was passed over is not one that ended the run.
        ledger.begin();
        return n;
    }

    public int told(int what) {
        if (what >= MISSING && what <= ZERO) {
            return ledger.countOf(what);
        }
        switch (what) {
            case 0:
                return ledger.latest();
            case 6:
                return threads.count();
            case 7:
                return deck.count();
            case 8:
                return runSum;
            case 9:
                return wovenToEnd;
            default:
                return NONE;
        }
    }

    private static boolean isAct(int kind) {
        return kind >= LOOK && kind <= PART;
    }

    private boolean isEndedBy(int fault) {
        return fault != NO_FAULT && (passedOver >> fault & 1) == 0;
    }

    /** One act at an end, for act() and for a card; lane is null where it is not threaded. */
    private int work(int kind, Lane lane, int i, int v) {
        ledger.begin();
        int given = v;
        if (kind == LAY) {
            if (threads.isEmpty()) {
                return ledger.tell(EMPTY);
            }
            // Drawn ahead of the look at the lane: the thread is gone with a fault there, too.
            given = threads.draw();
        }
        if (lane == null) {
            return ledger.tell(MISSING);
        }
        if (!lane.has(i)) {
            return ledger.tell(OUTSIDE);
        }
        int fault = change(kind, lane, i, given);
        return fault == NO_FAULT ? lane.tells(i) : ledger.tell(fault);
    }

    /** Changes an end that is there; v is what LAY has drawn, or what PART parts by. Answers the fault. */
    private int change(int kind, Lane lane, int i, int v) {
        switch (kind) {
            case LAY:
                lane.lay(i, v);
                return NO_FAULT;
            case PULL:
                if (threads.isEmpty()) {
                    return EMPTY;
                }
                lane.pull(i, threads.draw());
                return NO_FAULT;
            case TURN:
                lane.turn(i);
                return NO_FAULT;
            case PART:
                return lane.part(i, v) ? NO_FAULT : ZERO;
            default:
                return NO_FAULT;
        }
    }

    /** Weaves one cell of a pick that is there, or changes nothing and answers the fault. */
    private int weaveCell(int frame, int p, int e, int weft) {
        Lane lift = warp.laneAt(frame, LIFT);
        if (lift == null || !lift.has(e)) {
            return faultAtEnd(lift);
        }
        int shown = weft;
        if (lift.tells(e) == 1) {
            Lane yarn = warp.laneAt(frame, YARN);
            if (yarn == null || !yarn.has(e)) {
                return faultAtEnd(yarn);
            }
            shown = yarn.tells(e);
        }
        Lane length = warp.laneAt(frame, LENGTH);
        if (length == null || !length.has(e)) {
            return faultAtEnd(length);
        }
        length.pull(e, -1);
        fabric.set(p, e, shown);
        return NO_FAULT;
    }

    /** The fault of a lane in which an end was looked for and not found. */
    private static int faultAtEnd(Lane lane) {
        return lane == null ? MISSING : OUTSIDE;
    }

    /** The faults told so far, and that of the latest call. */
    private static final class Ledger {
        private final int[] counts = new int[ZERO + 1];
        private int latest = NO_FAULT;

        void begin() {
            latest = NO_FAULT;
        }

        /** Answers 0, as every act with a fault does. */
        int tell(int fault) {
            if (fault >= MISSING && fault <= ZERO) {
                latest = fault;
                counts[fault]++;
            }
            return 0;
        }

        int latest() {
            return latest;
        }

        int countOf(int fault) {
            return fault >= MISSING && fault <= ZERO ? counts[fault] : 0;
        }
    }

    /** The ends of a lane. Callers ask has(i) ahead of every act at end i. */
    private abstract static class Lane {
        private int count = 0;

        final int count() {
            return count;
        }

        final boolean has(int i) {
            return i >= 0 && i < count;
        }

        final void restretch(int n) {
            count = n >= 0 && n <= MOST_ENDS ? n : 0;
            for (int i = 0; i < count; i++) {
                reset(i);
            }
        }

        abstract void reset(int i);

        abstract int tells(int i);

        abstract void lay(int i, int v);

        abstract void pull(int i, int v);

        abstract void turn(int i);

        /** False, changing nothing, where v is 0 and the sort can't be parted by it. */
        abstract boolean part(int i, int v);

        abstract void exchange(int i, int j);
    }

    /** YARN, LENGTH and DYE differ only in how a number is fitted. */
    private static final class WholeLane extends Lane {
        private final int sort;
        private final int[] values = new int[MOST_ENDS];

        WholeLane(int sort) {
            this.sort = sort;
        }

        private int fit(int v) {
            switch (sort) {
                case YARN:
                    return (char) v;
                case LENGTH:
                    return (short) v;
                default:
                    return (byte) v;
            }
        }

        void reset(int i) {
            values[i] = 0;
        }

        int tells(int i) {
            return values[i];
        }

        void lay(int i, int v) {
            values[i] = fit(v);
        }

        void pull(int i, int v) {
            values[i] = fit(values[i] + v);
        }

        void turn(int i) {
            values[i] = fit(values[i] + 1);
        }

        boolean part(int i, int v) {
            if (v == 0) {
                return false;
            }
            values[i] = fit(values[i] / v);
            return true;
        }

        void exchange(int i, int j) {
            int kept = values[i];
            values[i] = values[j];
            values[j] = kept;
        }
    }

    private static final class TensionLane extends Lane {
        private final float[] values = new float[MOST_ENDS];

        private static float hold(float x) {
            if (x < -4096f) {
                return -4096f;
            }
            return x > 4096f ? 4096f : x;
        }

        private static float eighths(int v) {
            return (float) v / 8f;
        }

        void reset(int i) {
            values[i] = 0f;
        }

        int tells(int i) {
            return (int) (values[i] * 8f);
        }

        void lay(int i, int v) {
            values[i] = hold(eighths(v));
        }

        void pull(int i, int v) {
            values[i] = hold(values[i] + eighths(v));
        }

        void turn(int i) {
            values[i] = hold(values[i] + 1f);
        }

        boolean part(int i, int v) {
            if (v == 0) {
                return false;
            }
            // No hold(): v is 1 or more, or -1 or less, so the quotient is no larger than what was held.
            values[i] = values[i] / (float) v;
            return true;
        }

        void exchange(int i, int j) {
            float kept = values[i];
            values[i] = values[j];
            values[j] = kept;
        }
    }

    private static final class LiftLane extends Lane {
        private final boolean[] up = new boolean[MOST_ENDS];

        private static boolean isOdd(int v) {
            return (v & 1) != 0;
        }

        void reset(int i) {
            up[i] = false;
        }

        int tells(int i) {
            return up[i] ? 1 : 0;
        }

        void lay(int i, int v) {
            up[i] = isOdd(v);
        }

        void pull(int i, int v) {
            if (isOdd(v)) {
                turn(i);
            }
        }

        void turn(int i) {
            up[i] = !up[i];
        }

        boolean part(int i, int v) {
            if (!isOdd(v)) {
                up[i] = false;
            }
            return true;
        }

        void exchange(int i, int j) {
            boolean kept = up[i];
            up[i] = up[j];
            up[j] = kept;
        }
    }

    /** Which lane each frame has of each sort; tied frames have the same one, null is not threaded. */
    private static final class Warp {
        // Every lane is made once and used again: a sort needs no more than one for each frame.
        private final Lane[] store = new Lane[FRAMES * SORTS];
        private final Lane[] lanes = new Lane[FRAMES * SORTS];

        Warp() {
            for (int at = 0; at < store.length; at++) {
                store[at] = newLane(at % SORTS);
            }
        }

        private static Lane newLane(int sort) {
            switch (sort) {
                case TENSION:
                    return new TensionLane();
                case LIFT:
                    return new LiftLane();
                default:
                    return new WholeLane(sort);
            }
        }

        static boolean isFrame(int frame) {
            return frame >= 0 && frame < FRAMES;
        }

        static boolean isLane(int frame, int sort) {
            return isFrame(frame) && sort >= 0 && sort < SORTS;
        }

        private static int place(int frame, int sort) {
            return frame * SORTS + sort;
        }

        Lane laneAt(int frame, int sort) {
            return isLane(frame, sort) ? lanes[place(frame, sort)] : null;
        }

        void loosen(int frame, int sort) {
            if (isLane(frame, sort)) {
                lanes[place(frame, sort)] = null;
            }
        }

        void join(int frame, int sort, int other) {
            if (isLane(frame, sort)) {
                lanes[place(frame, sort)] = laneAt(other, sort);
            }
        }

        void stretch(int frame, int sort, int n) {
            if (!isLane(frame, sort)) {
                return;
            }
            loosen(frame, sort);
            Lane free = spareLane(sort);
            if (free != null) {
                free.restretch(n);
            }
            lanes[place(frame, sort)] = free;
        }

        /** A lane that no frame has; there is one whenever a frame of the sort is not threaded. */
        private Lane spareLane(int sort) {
            for (int k = 0; k < FRAMES; k++) {
                Lane lane = store[place(k, sort)];
                if (!isHeld(lane, sort)) {
                    return lane;
                }
            }
            return null;
        }

        private boolean isHeld(Lane lane, int sort) {
            for (int frame = 0; frame < FRAMES; frame++) {
                if (lanes[place(frame, sort)] == lane) {
                    return true;
                }
            }
            return false;
        }
    }

    /** A ring of threads. */
    private static final class Spool {
        private final int[] ring = new int[MOST_THREADS];
        private int first = 0;
        private int count = 0;

        int count() {
            return count;
        }

        boolean isEmpty() {
            return count == 0;
        }

        boolean isFull() {
            return count == MOST_THREADS;
        }

        void wind(int v) {
            if (!isFull()) {
                ring[(first + count) % MOST_THREADS] = v;
                count++;
            }
        }

        int draw() {
            if (isEmpty()) {
                return 0;
            }
            int v = ring[first];
            first = (first + 1) % MOST_THREADS;
            count--;
            return v;
        }
    }

    /** Picks show rows of cells: picks that are the same show the same row. */
    private static final class Cloth {
        private static final int NO_ROW = -1;

        private final int[] cells = new int[MOST_PICKS * MOST_CELLS];
        private final int[] rows = new int[MOST_PICKS];
        private boolean there = false;
        private int picks = 0;
        private int width = 0;

        int width() {
            return width;
        }

        void renew(int n, int m) {
            if (n < 0 || n > MOST_PICKS || m < 0 || m > MOST_CELLS) {
                return;
            }
            there = true;
            picks = n;
            width = m;
            for (int p = 0; p < n; p++) {
                rows[p] = p;
                for (int e = 0; e < m; e++) {
                    cells[p * MOST_CELLS + e] = 0;
                }
            }
        }

        private boolean isPlace(int p) {
            return p >= 0 && p < picks;
        }

        /** The fault of a place for a pick, whether the pick is there or not. */
        int placeFault(int p) {
            if (!there) {
                return MISSING;
            }
            return isPlace(p) ? NO_FAULT : OUTSIDE;
        }

        /** The fault of a pick that must be there. */
        int pickFault(int p) {
            int fault = placeFault(p);
            return fault == NO_FAULT && !hasPick(p) ? MISSING : fault;
        }

        boolean hasPick(int p) {
            return isPlace(p) && rows[p] != NO_ROW;
        }

        boolean hasCell(int e) {
            return e >= 0 && e < width;
        }

        void drop(int p) {
            if (isPlace(p)) {
                rows[p] = NO_ROW;
            }
        }

        void join(int p, int q) {
            if (isPlace(p) && isPlace(q)) {
                rows[p] = rows[q];
            }
        }

        int get(int p, int e) {
            return hasPick(p) && hasCell(e) ? cells[rows[p] * MOST_CELLS + e] : 0;
        }

        void set(int p, int e, int v) {
            if (hasPick(p) && hasCell(e)) {
                cells[rows[p] * MOST_CELLS + e] = v;
            }
        }
    }

    /** An act that waits for run(). */
    private static final class Card {
        private int kind = LOOK;
        private int frame = 0;
        private int sort = YARN;
        private int end = 0;
        private int v = 0;
    }

    /** The cards in their order; card objects are made once and written anew. */
    private static final class Deck {
        private final Card[] cards = new Card[MOST_CARDS];
        private int count = 0;

        Deck() {
            for (int at = 0; at < cards.length; at++) {
                cards[at] = new Card();
            }
        }

        int count() {
            return count;
        }

        boolean isFull() {
            return count == MOST_CARDS;
        }

        void clear() {
            count = 0;
        }

        void add(int kind, int frame, int sort, int end, int v) {
            if (isFull()) {
                return;
            }
            Card card = cards[count];
            card.kind = kind;
            card.frame = frame;
            card.sort = sort;
            card.end = end;
            card.v = v;
            count++;
        }

        /** Callers ask for a place below count(). */
        Card at(int place) {
            return cards[place];
        }
    }
}
