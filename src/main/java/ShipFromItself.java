/**
 * A ship mended with itself: places that let in water, timbers that are moved between them and eaten by worms.
 * What each call promises is told in DOC.md; the words in capitals here are that document's.
 */
public final class ShipFromItself {
    public static final int UNKNOWN = -1, OUTSIDE = -2, STATE = -3, FULL = -4, NONE = -9;

    private static final int MOST_BYTES = 72;
    private static final int HEAD_BYTES = 4;
    private static final int FILLED_BYTES = 6;
    private static final int OPEN_BYTES = 4;
    private static final int MOST_BYTES_A_CALL = 8;
    private static final int MOST_PLACES = 10;
    private static final int SHIPS = 3;
    private static final int LAID = 100;
    private static final int LOST = 200;
    private static final int WORMS_THAT_END_IT = 10;
    private static final int MOST_WATCHES = 99;
    private static final int MOST_ACTS = 24;
    private static final int SLOTS = 2;
    private static final int MOST_MOVES = 2;
    private static final int MOST_MOVES_IN_LOG = 3;
    private static final int TENTHS = 10;
    private static final int MOST_ROWS = 1000000;
    private static final int MOST_LEAK_ASKED = 99;

    private final Text text = new Text();
    private final Hull hull = new Hull();
    private final Load now = new Load();
    private final Load trial = new Load();
    private final ActRow acts = new ActRow();
    private final Slots slots = new Slots();
    private final Chances chances = new Chances();
    private final Search search = new Search(hull, trial);

    public ShipFromItself() {
    }

    // ---- the ship

    public int write(int n, long v) {
        if (n < 1 || n > MOST_BYTES_A_CALL) {
            return OUTSIDE;
        }
        if (!text.hasRoomFor(n)) {
            return FULL;
        }
        text.append(n, v);
        return text.size();
    }

    public int wipe() {
        int before = text.size();
        text.clear();
        return before;
    }

    public int fault() {
        return text.firstFault();
    }

    public int ship() {
        if (text.firstFault() != NONE) {
            return STATE;
        }
        hull.build(text);
        now.fill(hull, text);
        acts.forgetAll();
        slots.forgetAll();
        return hull.places();
    }

    public int place(int place, int what) {
        if (!hull.isPlace(place)) {
            return UNKNOWN;
        }
        switch (what) {
            case 0: return hull.lengthOf(place);
            case 1: return hull.letsIn(place);
            case 2: return hull.restsOn(place);
            case 3: return now.timberIn(place);
            default: return OUTSIDE;
        }
    }

    public int timber(int timber, int what) {
        if (!hull.isPlace(timber)) {
            return UNKNOWN;
        }
        switch (what) {
            case 0: return now.whereIs(timber);
            case 1: return now.lengthOf(timber);
            case 2: return hull.shipOf(timber);
            case 3: return now.wormsIn(timber);
            default: return OUTSIDE;
        }
    }

    // ---- acts

    public int take(int place) {
        if (!hull.isPlace(place)) {
            return UNKNOWN;
        }
        if (now.isSunk() || !hull.mayBeTakenFrom(place, now)) {
            return STATE;
        }
        acts.remember(now);
        int timber = now.timberIn(place);
        now.bringTo(timber, LAID);
        return timber;
    }

    public int put(int timber, int place) {
        if (!hull.isPlace(timber) || !hull.isPlace(place)) {
            return UNKNOWN;
        }
        if (now.isSunk() || now.whereIs(timber) != LAID || !hull.fits(timber, place, now)) {
            return STATE;
        }
        return bringInto(timber, place);
    }

    public int move(int timber, int place) {
        if (!hull.isPlace(timber) || !hull.isPlace(place)) {
            return UNKNOWN;
        }
        if (now.isSunk() || !hull.mayBeMoved(timber, place, now)) {
            return STATE;
        }
        return bringInto(timber, place);
    }

    public int watch() {
        if (now.isSunk()) {
            return STATE;
        }
        acts.remember(now);
        hull.passWatch(now);
        return now.waterInside();
    }

    public int back() {
        if (acts.size() < 1) {
            return STATE;
        }
        acts.undoLast(now);
        return acts.size();
    }

    // ---- how she is

    public int leak() {
        return hull.leakOf(now);
    }

    public int floats() {
        trial.copyFrom(now);
        return hull.watchesAfloat(trial);
    }

    public int harm(int place) {
        if (!hull.isPlace(place)) {
            return UNKNOWN;
        }
        if (now.isOpen(place)) {
            return STATE;
        }
        trial.copyFrom(now);
        trial.bringTo(trial.timberIn(place), LOST);
        hull.letComeDown(trial);
        return hull.leakOf(trial);
    }

    public int may(int timber, int place) {
        if (!hull.isPlace(timber) || !hull.isPlace(place)) {
            return UNKNOWN;
        }
        return !now.isSunk() && hull.mayBeMoved(timber, place, now) ? 1 : 0;
    }

    public int best(int k) {
        int refusal = refusalOfBest(k);
        if (refusal != 0) {
            return refusal;
        }
        return search.leastLeak(now, k);
    }

    public int bestAt(int k, int i) {
        int refusal = refusalOfBest(k);
        if (refusal != 0) {
            return refusal;
        }
        search.leastLeak(now, k);
        return search.foundMove(i);
    }

    public int port(int n) {
        int refusal = refusalOfPort(n);
        if (refusal != 0) {
            return refusal;
        }
        return search.fewestMoves(now, n);
    }

    public int portAt(int n, int i) {
        int refusal = refusalOfPort(n);
        if (refusal != 0) {
            return refusal;
        }
        search.fewestMoves(now, n);
        return search.foundMove(i);
    }

    // ---- storm, shares, the log

    public long storm(int x, int y, boolean upper) {
        if (x < 0 || x > TENTHS || y < 0 || y > MOST_LEAK_ASKED) {
            return OUTSIDE;
        }
        chances.begin(hull.leakOf(now));
        for (int place = 0; place < hull.places(); place++) {
            if (!now.isOpen(place)) {
                chances.tearOut(hull.letsIn(place), x);
            }
        }
        return leastTerms(chances.upTo(y), chances.all(), upper);
    }

    public int share(int ship, boolean upper) {
        if (ship < 0 || ship >= SHIPS) {
            return UNKNOWN;
        }
        int ofShip = 0;
        int ofAll = 0;
        for (int place = 0; place < hull.places(); place++) {
            int timber = now.timberIn(place);
            if (timber != NONE) {
                ofAll += now.lengthOf(timber);
                ofShip += hull.shipOf(timber) == ship ? now.lengthOf(timber) : 0;
            }
        }
        return (int) leastTerms(ofShip, ofAll, upper);
    }

    public int log(int k, int places) {
        if (k < 0 || k > MOST_MOVES_IN_LOG || places < 0 || places >= 1 << hull.places()) {
            return OUTSIDE;
        }
        if (now.isSunk()) {
            return STATE;
        }
        return search.rowsTo(places, now, k);
    }

    // ---- slots

    public int keep(int slot) {
        if (!slots.isSlot(slot)) {
            return UNKNOWN;
        }
        slots.store(slot, now);
        return now.waterInside();
    }

    public int again(int slot) {
        if (!slots.isSlot(slot)) {
            return UNKNOWN;
        }
        if (!slots.isFilled(slot)) {
            return STATE;
        }
        slots.bringBack(slot, now);
        acts.forgetAll();
        return now.waterInside();
    }

    public int count(int what) {
        switch (what) {
            case 0: return text.size();
            case 1: return hull.places();
            case 2: return Integer.bitCount(hull.openPlaces(now));
            case 3: return timbersThatAre(LAID);
            case 4: return timbersThatAre(LOST);
            case 5: return now.waterInside();
            case 6: return now.isSunk() ? 1 : 0;
            case 7: return hull.pumps();
            case 8: return hull.hold();
            case 9: return acts.size();
            default: return OUTSIDE;
        }
    }

    // ---- what the calls share

    private int bringInto(int timber, int place) {
        acts.remember(now);
        hull.bringInto(timber, place, now);
        return now.lengthOf(timber);
    }

    private int refusalOfBest(int k) {
        if (k < 0 || k > MOST_MOVES) {
            return OUTSIDE;
        }
        return now.isSunk() ? STATE : 0;
    }

    private int refusalOfPort(int n) {
        if (n < 1 || n > MOST_WATCHES) {
            return OUTSIDE;
        }
        return now.isSunk() ? STATE : 0;
    }

    private int timbersThatAre(int where) {
        int found = 0;
        for (int timber = 0; timber < hull.places(); timber++) {
            if (now.whereIs(timber) == where) {
                found++;
            }
        }
        return found;
    }

    private static long leastTerms(long above, long below, boolean upper) {
        if (above < 1 || below < 1) {
            return upper ? 0 : 1;
        }
        long divisor = commonDivisor(above, below);
        if (divisor < 1) {
            return upper ? above : below;
        }
        return (upper ? above : below) / divisor;
    }

    private static long commonDivisor(long a, long b) {
        long larger = a;
        long smaller = b;
        // Euclid's steps for two longs are fewer than 100.
        for (int step = 0; step < 100 && smaller != 0; step++) {
            long rest = larger % smaller;
            larger = smaller;
            smaller = rest;
        }
        return larger;
    }

    /** THE TEXT, and where it can be no SHIP. */
    private static final class Text {
        private static final int NO_BYTE = -1;

        private final byte[] bytes = new byte[MOST_BYTES];
        private int size = 0;

        int size() {
            return size;
        }

        boolean hasRoomFor(int n) {
            return size + n <= bytes.length;
        }

        void append(int n, long v) {
            for (int i = n - 1; i >= 0 && size < bytes.length; i--) {
                bytes[size] = (byte) (v >> (8 * i));
                size++;
            }
        }

        void clear() {
            size = 0;
        }

        /** NO_BYTE behind the end: it fits nowhere, so that a text only cut short has its fault at its length. */
        int byteAt(int i) {
            return i >= 0 && i < size && i < bytes.length ? bytes[i] & 255 : NO_BYTE;
        }

        int figureAt(int i) {
            return byteAt(i) - '0';
        }

        boolean isFilledPlace(int from) {
            return byteAt(from) == 'P';
        }

        int bytesOfPlace(int from) {
            return isFilledPlace(from) ? FILLED_BYTES : OPEN_BYTES;
        }

        int firstFault() {
            int inHead = faultInHead();
            if (inHead != NONE) {
                return inHead;
            }
            int from = HEAD_BYTES;
            for (int place = 0; place < MOST_PLACES && from < size; place++) {
                int inPlace = faultInPlace(from, place);
                if (inPlace != NONE) {
                    return inPlace;
                }
                from += bytesOfPlace(from);
            }
            return from < size ? from : NONE;
        }

        private int faultInHead() {
            if (byteAt(0) != 'S') {
                return 0;
            }
            if (!isFigure(1, 0, 9)) {
                return 1;
            }
            if (!isFigure(2, 0, 9)) {
                return 2;
            }
            int leastUnits = figureAt(2) == 0 ? 1 : 0;
            return isFigure(3, leastUnits, 9) ? NONE : 3;
        }

        private int faultInPlace(int from, int place) {
            if (!isFilledPlace(from) && byteAt(from) != 'O') {
                return from;
            }
            if (!isFigure(from + 1, 1, 9)) {
                return from + 1;
            }
            if (!isFigure(from + 2, 0, 9)) {
                return from + 2;
            }
            if (byteAt(from + 3) != '-' && !isFigure(from + 3, 0, place - 1)) {
                return from + 3;
            }
            return isFilledPlace(from) ? faultInTimber(from) : NONE;
        }

        private int faultInTimber(int from) {
            if (!isFigure(from + 4, 0, SHIPS - 1)) {
                return from + 4;
            }
            return isFigure(from + 5, 0, 9) ? NONE : from + 5;
        }

        private boolean isFigure(int i, int least, int most) {
            return figureAt(i) >= least && figureAt(i) <= most;
        }
    }

    /** What stays as it is while a SHIP lasts: her PLACES, PUMPS and HOLD; and what these rules do to a Load. */
    private static final class Hull {
        private final int[] length = new int[MOST_PLACES];
        private final int[] letsIn = new int[MOST_PLACES];
        private final int[] restsOn = new int[MOST_PLACES];
        private final int[] shipOf = new int[MOST_PLACES];
        private int places = 0;
        private int pumps = 0;
        private int hold = 1;

        /** Of a text without a FAULT. */
        void build(Text text) {
            pumps = text.figureAt(1);
            hold = 10 * text.figureAt(2) + text.figureAt(3);
            places = 0;
            int from = HEAD_BYTES;
            for (int place = 0; place < MOST_PLACES && from < text.size(); place++) {
                length[place] = text.figureAt(from + 1);
                letsIn[place] = text.figureAt(from + 2);
                restsOn[place] = text.byteAt(from + 3) == '-' ? NONE : text.figureAt(from + 3);
                shipOf[place] = text.isFilledPlace(from) ? text.figureAt(from + 4) : NONE;
                places = place + 1;
                from += text.bytesOfPlace(from);
            }
        }

        int places() {
            return places;
        }

        int pumps() {
            return pumps;
        }

        int hold() {
            return hold;
        }

        boolean isPlace(int i) {
            return i >= 0 && i < places && i < MOST_PLACES;
        }

        int lengthOf(int place) {
            return place >= 0 && place < places && place < length.length ? length[place] : 0;
        }

        int letsIn(int place) {
            return place >= 0 && place < places && place < letsIn.length ? letsIn[place] : 0;
        }

        int restsOn(int place) {
            return place >= 0 && place < places && place < restsOn.length ? restsOn[place] : NONE;
        }

        int shipOf(int timber) {
            return timber >= 0 && timber < places && timber < shipOf.length ? shipOf[timber] : NONE;
        }

        int leakOf(Load load) {
            int leak = 0;
            for (int place = 0; place < places; place++) {
                leak += load.isOpen(place) ? letsIn(place) : 0;
            }
            return leak;
        }

        int openPlaces(Load load) {
            int open = 0;
            for (int place = 0; place < places; place++) {
                open |= load.isOpen(place) ? 1 << place : 0;
            }
            return open;
        }

        boolean mayBeTakenFrom(int place, Load load) {
            if (load.isOpen(place)) {
                return false;
            }
            for (int other = 0; other < places; other++) {
                if (restsOn(other) == place && !load.isOpen(other)) {
                    return false;
                }
            }
            return true;
        }

        /** Whether a TIMBER that is in no PLACE could be PUT into this one. */
        boolean fits(int timber, int place, Load load) {
            int under = restsOn(place);
            return isPlace(place) && load.isOpen(place) && load.lengthOf(timber) >= lengthOf(place)
                && (under == NONE || !load.isOpen(under));
        }

        boolean mayBeMoved(int timber, int place, Load load) {
            int from = load.whereIs(timber);
            if (from == LAID) {
                return fits(timber, place, load);
            }
            // What rests on the PLACE that the TIMBER leaves would rest on an OPEN one.
            return isPlace(from) && mayBeTakenFrom(from, load) && restsOn(place) != from && fits(timber, place, load);
        }

        void bringInto(int timber, int place, Load load) {
            load.bringTo(timber, place);
            load.cutTo(timber, lengthOf(place));
        }

        void passWatch(Load load) {
            load.setWater(Math.max(0, load.waterInside() + leakOf(load) - pumps));
            if (load.waterInside() > hold) {
                load.sink();
                return;
            }
            letWormsEat(load);
            letComeDown(load);
        }

        private void letWormsEat(Load load) {
            for (int place = 0; place < places; place++) {
                int timber = load.timberIn(place);
                if (load.wormsIn(timber) > 0) {
                    load.addWorm(timber);
                    if (load.wormsIn(timber) >= WORMS_THAT_END_IT) {
                        load.bringTo(timber, LOST);
                    }
                }
            }
        }

        /** A PLACE rests on one told ahead of it, so that one pass upwards leaves nothing that should come down. */
        void letComeDown(Load load) {
            for (int place = 0; place < places; place++) {
                if (!load.isOpen(place) && hangsInAir(place, load)) {
                    load.bringTo(load.timberIn(place), LAID);
                }
            }
        }

        private boolean hangsInAir(int place, Load load) {
            return restsOn(place) != NONE && load.isOpen(restsOn(place));
        }

        /** FLOATS; the WATCHES pass in the load given. */
        int watchesAfloat(Load load) {
            if (load.isSunk()) {
                return 0;
            }
            for (int stood = 0; stood < MOST_WATCHES; stood++) {
                if (isAtRest(load)) {
                    return Math.min(MOST_WATCHES, stood + watchesAtRest(load));
                }
                passWatch(load);
                if (load.isSunk()) {
                    return stood;
                }
            }
            return MOST_WATCHES;
        }

        /** Whether a WATCH changes nothing but WATER; worms see to it that this is so after ten WATCHES at most. */
        private boolean isAtRest(Load load) {
            for (int place = 0; place < places; place++) {
                if (load.wormsIn(load.timberIn(place)) > 0 || !load.isOpen(place) && hangsInAir(place, load)) {
                    return false;
                }
            }
            return true;
        }

        private int watchesAtRest(Load load) {
            int gain = leakOf(load) - pumps;
            return gain > 0 ? (hold - load.waterInside()) / gain : MOST_WATCHES;
        }
    }

    /** What changes: where the TIMBERS are, how long, their WORMS; WATER; whether she is SUNK. */
    private static final class Load {
        private final int[] where = new int[MOST_PLACES];
        private final int[] length = new int[MOST_PLACES];
        private final int[] worms = new int[MOST_PLACES];
        /** By PLACES, the other way round than where: the TIMBER in it, or NONE. */
        private final int[] timberIn = new int[MOST_PLACES];
        private int water = 0;
        private boolean sunk = false;

        Load() {
            for (int i = 0; i < MOST_PLACES; i++) {
                where[i] = LOST;
                timberIn[i] = NONE;
            }
        }

        /** Of a text without a FAULT, of which the hull has been built. */
        void fill(Hull hull, Text text) {
            int from = HEAD_BYTES;
            for (int i = 0; i < MOST_PLACES; i++) {
                boolean filled = hull.isPlace(i) && text.isFilledPlace(from);
                where[i] = filled ? i : LOST;
                timberIn[i] = filled ? i : NONE;
                length[i] = filled ? hull.lengthOf(i) : 0;
                worms[i] = filled ? text.figureAt(from + 5) : 0;
                from += text.bytesOfPlace(from);
            }
            water = 0;
            sunk = false;
        }

        void copyFrom(Load other) {
            System.arraycopy(other.where, 0, where, 0, MOST_PLACES);
            System.arraycopy(other.length, 0, length, 0, MOST_PLACES);
            System.arraycopy(other.worms, 0, worms, 0, MOST_PLACES);
            System.arraycopy(other.timberIn, 0, timberIn, 0, MOST_PLACES);
            water = other.water;
            sunk = other.sunk;
        }

        int whereIs(int timber) {
            return timber >= 0 && timber < where.length ? where[timber] : LOST;
        }

        int lengthOf(int timber) {
            return timber >= 0 && timber < length.length ? length[timber] : 0;
        }

        /** None in NONE. */
        int wormsIn(int timber) {
            return timber >= 0 && timber < worms.length ? worms[timber] : 0;
        }

        int timberIn(int place) {
            return place >= 0 && place < timberIn.length ? timberIn[place] : NONE;
        }

        boolean isOpen(int place) {
            return place < 0 || place >= timberIn.length || timberIn[place] == NONE;
        }

        int waterInside() {
            return water;
        }

        boolean isSunk() {
            return sunk;
        }

        /** Brings a TIMBER out of the PLACE where it may be, and to a PLACE, LAID or LOST. */
        void bringTo(int timber, int target) {
            if (timber < 0 || timber >= where.length) {
                return;
            }
            int from = where[timber];
            if (from >= 0 && from < timberIn.length) {
                timberIn[from] = NONE;
            }
            where[timber] = target;
            if (target >= 0 && target < timberIn.length) {
                timberIn[target] = timber;
            }
        }

        void cutTo(int timber, int longThen) {
            if (timber >= 0 && timber < length.length) {
                length[timber] = longThen;
            }
        }

        void addWorm(int timber) {
            if (timber >= 0 && timber < worms.length) {
                worms[timber]++;
            }
        }

        void setWater(int level) {
            water = level;
        }

        void sink() {
            sunk = true;
        }
    }

    /** THE ROW of ACTS: how all was ahead of each, in a ring. */
    private static final class ActRow {
        private final Load[] before = new Load[MOST_ACTS];
        private int first = 0;
        private int size = 0;

        ActRow() {
            for (int i = 0; i < MOST_ACTS; i++) {
                before[i] = new Load();
            }
        }

        int size() {
            return size;
        }

        void forgetAll() {
            size = 0;
        }

        void remember(Load load) {
            if (size >= MOST_ACTS) {
                first = Math.floorMod(first + 1, MOST_ACTS);
                size--;
            }
            before[behindLast()].copyFrom(load);
            size++;
        }

        void undoLast(Load load) {
            if (size > 0) {
                size--;
                load.copyFrom(before[behindLast()]);
            }
        }

        private int behindLast() {
            return Math.floorMod(first + size, MOST_ACTS);
        }
    }

    private static final class Slots {
        private final Load[] stored = new Load[SLOTS];
        private final boolean[] filled = new boolean[SLOTS];

        Slots() {
            for (int i = 0; i < SLOTS; i++) {
                stored[i] = new Load();
            }
        }

        boolean isSlot(int slot) {
            return slot >= 0 && slot < SLOTS;
        }

        boolean isFilled(int slot) {
            return isSlot(slot) && filled[slot];
        }

        void store(int slot, Load load) {
            if (isSlot(slot)) {
                stored[slot].copyFrom(load);
                filled[slot] = true;
            }
        }

        void bringBack(int slot, Load load) {
            if (isFilled(slot)) {
                load.copyFrom(stored[slot]);
            }
        }

        void forgetAll() {
            for (int i = 0; i < SLOTS; i++) {
                filled[i] = false;
            }
        }
    }

    /** Of STORM: in how many of all ways LEAK is so much; each TIMBER is torn out in x ways of ten. */
    private static final class Chances {
        private final long[] ways = new long[9 * MOST_PLACES + 1];
        private long all = 1;

        void begin(int leak) {
            for (int i = 0; i < ways.length; i++) {
                ways[i] = i == leak ? 1 : 0;
            }
            all = 1;
        }

        void tearOut(int letsIn, int tenths) {
            for (int i = ways.length - 1; i >= 0; i--) {
                int ahead = i - letsIn;
                long torn = ahead >= 0 && ahead < ways.length ? ways[ahead] * tenths : 0;
                ways[i] = ways[i] * (TENTHS - tenths) + torn;
            }
            all *= TENTHS;
        }

        long upTo(int leak) {
            long sum = 0;
            for (int i = 0; i <= leak && i < ways.length; i++) {
                sum += ways[i];
            }
            return sum;
        }

        long all() {
            return all;
        }
    }

    /** All rows of so many MOVES, one after another, the first ones first. */
    private static final class Rows {
        private static final int MOVES_TOLD = 10 * MOST_PLACES;
        private static final int BEFORE_ALL = -1;

        private final Hull hull;
        /** What each MOVE of the row leaves; the first one is ahead of them all. */
        private final Load[] steps = new Load[MOST_MOVES + 1];
        private final int[] row = new int[MOST_MOVES];
        private int moves = 0;
        private boolean begun = false;

        Rows(Hull hull) {
            this.hull = hull;
            for (int i = 0; i < steps.length; i++) {
                steps[i] = new Load();
            }
        }

        void begin(Load start, int movesEach) {
            steps[0].copyFrom(start);
            moves = Math.max(0, Math.min(movesEach, MOST_MOVES));
            begun = false;
        }

        /** How all is behind the row. */
        Load end() {
            return moves >= 0 && moves < steps.length ? steps[moves] : steps[0];
        }

        void copyTo(int[] target) {
            System.arraycopy(row, 0, target, 0, Math.min(moves, target.length));
        }

        /** Goes to the next row; false: there is none. */
        boolean next() {
            boolean first = !begun;
            begun = true;
            if (moves == 0) {
                return first;
            }
            int at = first ? 0 : moves - 1;
            if (first) {
                row[0] = BEFORE_ALL;
            }
            for (int tried = 0; tried < MOST_ROWS && at >= 0 && at < moves; tried++) {
                if (!makeNextMove(at)) {
                    at--;
                } else if (at == moves - 1) {
                    return true;
                } else {
                    at++;
                    row[at] = BEFORE_ALL;
                }
            }
            return false;
        }

        private boolean makeNextMove(int at) {
            if (at < 0 || at >= row.length || at + 1 >= steps.length) {
                return false;
            }
            for (int told = row[at] + 1; told < MOVES_TOLD; told++) {
                int timber = told / 10;
                int place = told % 10;
                if (hull.mayBeMoved(timber, place, steps[at])) {
                    row[at] = told;
                    steps[at + 1].copyFrom(steps[at]);
                    hull.bringInto(timber, place, steps[at + 1]);
                    return true;
                }
            }
            return false;
        }
    }

    /** What rows of MOVES can do: BEST, PORT, THE LOG. */
    private static final class Search {
        private final Hull hull;
        private final Load trial;
        private final Rows rows;
        private final int[] found = new int[MOST_MOVES];
        private int foundMoves = 0;

        Search(Hull hull, Load trial) {
            this.hull = hull;
            this.trial = trial;
            rows = new Rows(hull);
        }

        /** The i-th MOVE of the row that was found last. */
        int foundMove(int i) {
            return i >= 0 && i < foundMoves && i < found.length ? found[i] : NONE;
        }

        /** BEST. Rows with fewer MOVES, and first ones, come first: so only a lesser LEAK betters what was found. */
        int leastLeak(Load start, int mostMoves) {
            int least = hull.leakOf(start);
            foundMoves = 0;
            for (int moves = 1; moves <= mostMoves && moves <= MOST_MOVES; moves++) {
                rows.begin(start, moves);
                for (int i = 0; i < MOST_ROWS && rows.next(); i++) {
                    int leak = hull.leakOf(rows.end());
                    if (leak < least) {
                        least = leak;
                        foundMoves = moves;
                        rows.copyTo(found);
                    }
                }
            }
            return least;
        }

        /** PORT. */
        int fewestMoves(Load start, int watches) {
            for (int moves = 0; moves <= MOST_MOVES; moves++) {
                rows.begin(start, moves);
                for (int i = 0; i < MOST_ROWS && rows.next(); i++) {
                    trial.copyFrom(rows.end());
                    if (hull.watchesAfloat(trial) >= watches) {
                        foundMoves = moves;
                        rows.copyTo(found);
                        return moves;
                    }
                }
            }
            foundMoves = 0;
            return NONE;
        }

        /** THE LOG. The last MOVE is only counted, not made: so that a call makes thousands of MOVES, not 720,000. */
        int rowsTo(int openThen, Load start, int moves) {
            if (moves < 1) {
                return hull.openPlaces(start) == openThen ? 1 : 0;
            }
            int sum = 0;
            rows.begin(start, moves - 1);
            for (int i = 0; i < MOST_ROWS && rows.next(); i++) {
                sum += lastMovesTo(openThen, rows.end());
            }
            return sum;
        }

        private int lastMovesTo(int openThen, Load load) {
            int open = hull.openPlaces(load);
            int closed = open & ~openThen;
            // A MOVE closes just one PLACE.
            if (Integer.bitCount(closed) != 1) {
                return 0;
            }
            int place = Integer.numberOfTrailingZeros(closed);
            int sum = 0;
            for (int timber = 0; timber < hull.places(); timber++) {
                if (hull.mayBeMoved(timber, place, load) && (open ^ closed | bitOf(load.whereIs(timber))) == openThen) {
                    sum++;
                }
            }
            return sum;
        }

        /** Of LAID none: what was LAID leaves no PLACE. */
        private static int bitOf(int place) {
            return place >= 0 && place < MOST_PLACES ? 1 << place : 0;
        }
    }
}
