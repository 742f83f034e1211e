import java.util.Arrays;

/** Bridges that are paid for with tales: each keeper lets over who tells one that he has not heard. */
public final class TollTales {
    public static final int UNKNOWN = -1, OUTSIDE = -2, STATE = -3, FULL = -4, NONE = -9;
    public static final long LOST = Long.MIN_VALUE;

    private static final int MOST_TALES = 8, MOST_BRIDGES = 6, MOST_TRAVELLERS = 6, MOST_STEPS = 6, MOST_KEPT = 30;
    private static final int SHEETS = 4, MOST_CELLS = 40, LAST_SORT = 2;
    private static final int LAST_YEAR = 99, MOST_YEARS_ON_END = 99, HIGHEST_PRICE = 99;
    private static final int PLAIN_KIND = 0, FORGETFUL_KIND = 1, HALVING_KIND = 2;
    private static final int NO_FAULT = 0, NULL_FAULT = 1, CAST_FAULT = 2, INDEX_FAULT = 3, SIZE_FAULT = 4;
    private static final int FAULT_BASE = -10, TEXT_FAULT_BASE = -100;
    private static final int TEXT_HEAD = 2, BRIDGE_CODES = 3;
    private static final int TAKEN = 0, WHOLE = -1, NOT_FOUND = -1;

    private final Sheet[] sheets;
    private final Trace trace;
    private int latestFault;

    private final Keeper[] keepers;
    private final int[][] toldRows;
    private int bridges;

    private final int[] prices;
    private int tales;
    private int year;

    private final int[] known;
    private int travellers;

    private final Crossings crossings;
    private final Journey journey;
    private final Village crowd;
    private final int[] readyFrom;

    public TollTales() {
        sheets = new Sheet[SHEETS];
        for (int k = 0; k < SHEETS; k++) {
            sheets[k] = new Sheet();
        }
        trace = new Trace();
        keepers = new Keeper[MOST_BRIDGES];
        toldRows = new int[MOST_BRIDGES][MOST_TALES];
        prices = new int[MOST_TALES];
        known = new int[MOST_TRAVELLERS];
        crossings = new Crossings();
        journey = new Journey();
        crowd = new Village();
        readyFrom = new int[MOST_TALES];
    }

    // ---- 1 the river

    public int river(int sheet, int sort, int i, int n) {
        latestFault = NO_FAULT;
        Sheet text = sheetOf(sheet);
        if (text == null) {
            return UNKNOWN;
        }
        int refusal = refusalOfCells(text, sort, i, n);
        if (refusal != TAKEN) {
            return refusal;
        }
        int place = firstFault(text, i, n);
        if (place != WHOLE) {
            return TEXT_FAULT_BASE - place;
        }
        layRiver(text, i, n);
        return bridges;
    }

    public int ofBridge(int b, int what) {
        Keeper keeper = keeperOf(b);
        if (keeper == null) {
            return UNKNOWN;
        }
        if (what == 0) {
            return keeper.kind();
        }
        if (what == 1) {
            return keeper.span();
        }
        return what == 2 ? freshOf(keeper) : OUTSIDE;
    }

    public int price(int tale, int v) {
        if (!isTale(tale)) {
            return UNKNOWN;
        }
        if (v < 0 || v > HIGHEST_PRICE) {
            return OUTSIDE;
        }
        int before = prices[tale];
        prices[tale] = v;
        return before;
    }

    public int years(int n) {
        if (n < 0 || n > LAST_YEAR - year) {
            return OUTSIDE;
        }
        if (bridges == 0) {
            return STATE;
        }
        year += n;
        return year;
    }

    /** The place of the first code with which no text goes on, how many codes there are if it ends too soon, or WHOLE. */
    private static int firstFault(Sheet text, int i, int n) {
        for (int place = 0; place < n; place++) {
            if (!goesOn(place, text.at(i + place))) {
                return place;
            }
        }
        boolean ended = n >= TEXT_HEAD + BRIDGE_CODES && (n - TEXT_HEAD) % BRIDGE_CODES == 0;
        return ended ? WHOLE : n;
    }

    private static boolean goesOn(int place, int code) {
        if (place == 0) {
            return code == 'r';
        }
        if (place == 1) {
            return code >= '1' && code <= '8';
        }
        if (place >= TEXT_HEAD + BRIDGE_CODES * MOST_BRIDGES) {
            return false;
        }
        switch ((place - TEXT_HEAD) % BRIDGE_CODES) {
            case 0:
                return code == ';';
            case 1:
                return code == 'k' || code == 'f' || code == 'h';
            default:
                return code >= '1' && code <= '9';
        }
    }

    private void layRiver(Sheet text, int i, int n) {
        tales = text.at(i + 1) - '0';
        bridges = Math.min(MOST_BRIDGES, (n - TEXT_HEAD) / BRIDGE_CODES);
        for (int b = 0; b < MOST_BRIDGES; b++) {
            Arrays.fill(toldRows[b], NONE);
            int start = i + TEXT_HEAD + BRIDGE_CODES * b;
            keepers[b] = b < bridges ? newKeeper(text.at(start + 1), b, text.at(start + 2) - '0') : null;
        }
        Arrays.fill(prices, 1);
        year = 0;
        travellers = 0;
        crossings.forgetAll();
    }

    private Keeper newKeeper(int letter, int b, int span) {
        if (letter == 'f') {
            return new Forgetful(b, span, toldRows[b]);
        }
        return letter == 'h' ? new Halving(b, span, toldRows[b]) : new Keeper(b, span, toldRows[b]);
    }

    private Keeper keeperOf(int b) {
        return b >= 0 && b < bridges ? keepers[b] : null;
    }

    private boolean isTale(int tale) {
        return tale >= 0 && tale < tales;
    }

    private boolean isSetOfTales(int set) {
        return set >= 0 && set < 1 << tales;
    }

    private int heardOf(Keeper keeper) {
        int heard = 0;
        for (int tale = 0; tale < tales; tale++) {
            if (keeper.hasHeard(tale, year)) {
                heard |= 1 << tale;
            }
        }
        return heard;
    }

    private int freshOf(Keeper keeper) {
        return (1 << tales) - 1 & ~heardOf(keeper);
    }

    // ---- 2 crossings

    public int traveller(int set) {
        if (!isSetOfTales(set)) {
            return OUTSIDE;
        }
        if (bridges == 0) {
            return STATE;
        }
        if (travellers >= MOST_TRAVELLERS) {
            return FULL;
        }
        known[travellers] = set;
        travellers++;
        return travellers - 1;
    }

    public int knows(int t) {
        return isTraveller(t) ? known[t] : UNKNOWN;
    }

    public int buy(int t, int tale) {
        if (!isTraveller(t) || !isTale(tale)) {
            return UNKNOWN;
        }
        if (has(known[t], tale)) {
            return 0;
        }
        known[t] |= 1 << tale;
        return prices[tale];
    }

    public int cross(int t, int bridge, int tale) {
        Keeper keeper = keeperOf(bridge);
        if (!isTraveller(t) || keeper == null || !isTale(tale)) {
            return UNKNOWN;
        }
        if (!has(known[t], tale) || keeper.hasHeard(tale, year)) {
            return STATE;
        }
        hear(keeper, tale);
        return 1;
    }

    public int together(int t, int other, int bridge, int tale) {
        Keeper keeper = keeperOf(bridge);
        if (!isTraveller(t) || !isTraveller(other) || t == other || keeper == null || !isTale(tale)) {
            return UNKNOWN;
        }
        if (keeper.kind() != HALVING_KIND || !has(known[t] | known[other], tale) || keeper.hasHeard(tale, year)) {
            return STATE;
        }
        hear(keeper, tale);
        known[t] |= 1 << tale;
        known[other] |= 1 << tale;
        return 1;
    }

    public int toldIn(int bridge, int tale) {
        Keeper keeper = keeperOf(bridge);
        return keeper == null || !isTale(tale) ? UNKNOWN : keeper.lastTold(tale);
    }

    public int undo(int k) {
        if (k < 0 || k > crossings.count()) {
            return OUTSIDE;
        }
        for (int step = 0; step < k; step++) {
            crossings.takeBack();
            Keeper keeper = keeperOf(crossings.bridgeTaken());
            if (keeper != null) {
                keeper.setTold(crossings.taleTaken(), crossings.beforeTaken());
            }
        }
        return crossings.count();
    }

    private boolean isTraveller(int t) {
        return t >= 0 && t < travellers;
    }

    private static boolean has(int set, int k) {
        return (set >> k & 1) != 0;
    }

    private void hear(Keeper keeper, int tale) {
        crossings.keep(keeper.ownNumber(), tale, keeper.lastTold(tale));
        keeper.setTold(tale, year);
    }

    // ---- 3 journeys

    public int least(int t, int sheet, int sort, int i, int n) {
        int refusal = setOut(t, sheet, sort, i, n);
        if (refusal != TAKEN) {
            return refusal;
        }
        journey.choose(known[t], tales, prices);
        return journey.coin();
    }

    public int plan(int t, int sheet, int sort, int i, int n, int q) {
        int refusal = setOut(t, sheet, sort, i, n);
        if (refusal != TAKEN) {
            return refusal;
        }
        if (q < 0 || q >= n) {
            return UNKNOWN;
        }
        journey.choose(known[t], tales, prices);
        return journey.taleAt(q);
    }

    public long ways(int t, int sheet, int sort, int i, int n) {
        return setOut(t, sheet, sort, i, n) == TAKEN ? journey.rowsOf(known[t]) : LOST;
    }

    /** Makes the journey ready, or tells why the call is refused. */
    private int setOut(int t, int sheet, int sort, int i, int n) {
        latestFault = NO_FAULT;
        Sheet row = sheetOf(sheet);
        if (!isTraveller(t) || row == null) {
            return UNKNOWN;
        }
        int refusal = refusalOfCells(row, sort, i, n);
        if (refusal != TAKEN) {
            return refusal;
        }
        if (n < 1 || n > MOST_STEPS) {
            return OUTSIDE;
        }
        journey.begin();
        for (int step = 0; step < n; step++) {
            Keeper keeper = keeperOf(row.at(i + step));
            if (keeper == null) {
                return UNKNOWN;
            }
            journey.goOver(keeper.ownNumber(), freshOf(keeper));
        }
        return TAKEN;
    }

    // ---- 4 villages

    public int village(int bridge, int what) {
        Keeper keeper = keeperOf(bridge);
        if (keeper == null) {
            return UNKNOWN;
        }
        if (what != 0 && what != 1) {
            return OUTSIDE;
        }
        int fresh = freshOf(keeper);
        crowd.gather(known, travellers, fresh);
        return what == 0 ? crowd.most() : crowd.cover(tales, fresh);
    }

    public int lasts(int bridge) {
        Keeper keeper = keeperOf(bridge);
        if (keeper == null) {
            return UNKNOWN;
        }
        for (int tale = 0; tale < tales; tale++) {
            readyFrom[tale] = keeper.tellableFrom(tale, year);
        }
        // Whichever ready tale is told is gone equally long, so the first will do.
        for (int gone = 0; gone < MOST_YEARS_ON_END; gone++) {
            int tale = firstReady(year + gone);
            if (tale == NOT_FOUND) {
                return gone;
            }
            readyFrom[tale] = keeper.againFrom(year + gone);
        }
        return MOST_YEARS_ON_END;
    }

    private int firstReady(int when) {
        for (int tale = 0; tale < tales; tale++) {
            if (readyFrom[tale] != NONE && readyFrom[tale] <= when) {
                return tale;
            }
        }
        return NOT_FOUND;
    }

    // ---- 5 which it was

    public int which(int bridge, int when, int asked, int heard) {
        Keeper keeper = keeperOf(bridge);
        if (keeper == null) {
            return UNKNOWN;
        }
        if (when < 0 || when > year || !isSetOfTales(asked) || !isSetOfTales(heard) || (heard & ~asked) != 0) {
            return OUTSIDE;
        }
        int heardNow = heardOf(keeper);
        boolean stillHeard = keeper.stillHears(when, year);
        int may = 0;
        for (int tale = 0; tale < tales; tale++) {
            int heardThen = stillHeard ? heardNow | 1 << tale : heardNow;
            if ((heardThen & asked) == heard) {
                may |= 1 << tale;
            }
        }
        return may;
    }

    public int worth(int tale) {
        if (!isTale(tale)) {
            return UNKNOWN;
        }
        int count = 0;
        for (int b = 0; b < bridges; b++) {
            Keeper keeper = keeperOf(b);
            if (keeper != null && !keeper.hasHeard(tale, year)) {
                count++;
            }
        }
        return count;
    }

    public int debt(int bridge, int tale) {
        Keeper keeper = keeperOf(bridge);
        return keeper == null || !isTale(tale) ? UNKNOWN : keeper.tellableFrom(tale, year);
    }

    // ---- 6 sheets, parts

    public int sheet(int k, int sort, int n) {
        latestFault = NO_FAULT;
        Sheet sheet = sheetOf(k);
        if (sheet == null) {
            return UNKNOWN;
        }
        if (!isSort(sort) || n > MOST_CELLS) {
            return OUTSIDE;
        }
        if (n < 0) {
            return faulted(SIZE_FAULT);
        }
        sheet.renew(sort, n);
        return 1;
    }

    public int lose(int k) {
        Sheet sheet = sheetOf(k);
        if (sheet == null) {
            return UNKNOWN;
        }
        int had = sheet.hasNothing() ? 0 : 1;
        sheet.drop();
        return had;
    }

    public int put(int k, int i, int v) {
        latestFault = NO_FAULT;
        Sheet sheet = sheetOf(k);
        if (sheet == null) {
            return UNKNOWN;
        }
        if (sheet.hasNothing()) {
            return faulted(NULL_FAULT);
        }
        if (!sheet.holds(i, 1)) {
            return faulted(INDEX_FAULT);
        }
        sheet.write(i, v);
        return 1;
    }

    public long cell(int k, int i, int sort) {
        latestFault = NO_FAULT;
        Sheet sheet = sheetOf(k);
        if (sheet == null || refusalOfCells(sheet, sort, i, 1) != TAKEN) {
            return LOST;
        }
        return sheet.at(i);
    }

    public int copy(int k, int i, int other, int j, int n) {
        latestFault = NO_FAULT;
        Sheet from = sheetOf(k);
        Sheet to = sheetOf(other);
        if (from == null || to == null) {
            return UNKNOWN;
        }
        if (from.hasNothing() || to.hasNothing()) {
            return faulted(NULL_FAULT);
        }
        if (!to.isOfSort(from.sortOfRow())) {
            return faulted(CAST_FAULT);
        }
        if (!from.holds(i, n) || !to.holds(j, n)) {
            return faulted(INDEX_FAULT);
        }
        to.take(from, i, j, n);
        return n;
    }

    public int tell(int b) {
        Keeper keeper = keeperOf(b);
        return keeper == null ? UNKNOWN : keeper.telling(trace);
    }

    public int wake(int b) {
        Keeper keeper = keeperOf(b);
        return keeper == null ? UNKNOWN : keeper.waking(trace);
    }

    public int as(int b, int kind) {
        latestFault = NO_FAULT;
        Keeper keeper = keeperOf(b);
        if (keeper == null) {
            return UNKNOWN;
        }
        if (kind < PLAIN_KIND || kind > HALVING_KIND) {
            return OUTSIDE;
        }
        return kind > keeper.kind() ? faulted(CAST_FAULT) : 1;
    }

    public int trace() {
        return trace.all();
    }

    public int fault() {
        return latestFault;
    }

    public int many(int what) {
        switch (what) {
            case 0:
                return tales;
            case 1:
                return bridges;
            case 2:
                return travellers;
            case 3:
                return year;
            case 4:
                return crossings.count();
            default:
                return OUTSIDE;
        }
    }

    private Sheet sheetOf(int k) {
        return k >= 0 && k < SHEETS ? sheets[k] : null;
    }

    private static boolean isSort(int sort) {
        return sort >= 0 && sort <= LAST_SORT;
    }

    private int faulted(int number) {
        latestFault = number;
        return FAULT_BASE - number;
    }

    /** Why n cells from i on can't be read as a row of a sort, or TAKEN; nothing is of no sort, so NULL and CAST never meet. */
    private int refusalOfCells(Sheet sheet, int sort, int i, int n) {
        if (!isSort(sort)) {
            return OUTSIDE;
        }
        if (sheet.hasNothing()) {
            return faulted(NULL_FAULT);
        }
        if (!sheet.isOfSort(sort)) {
            return faulted(CAST_FAULT);
        }
        if (n < 0) {
            return faulted(SIZE_FAULT);
        }
        return sheet.holds(i, n) ? TAKEN : faulted(INDEX_FAULT);
    }

    /** Nothing, or a row of numbers; its cells are there from the start, so that a new row makes no array. */
    private static final class Sheet {
        private final int[] cells;
        private int sort;
        private int length;
        private boolean nothing;

        Sheet() {
            cells = new int[MOST_CELLS];
            nothing = true;
        }

        void renew(int newSort, int n) {
            Arrays.fill(cells, 0);
            sort = newSort;
            length = Math.max(0, Math.min(n, MOST_CELLS));
            nothing = false;
        }

        void drop() {
            nothing = true;
            length = 0;
        }

        boolean hasNothing() {
            return nothing;
        }

        boolean isOfSort(int other) {
            return sort == other;
        }

        int sortOfRow() {
            return sort;
        }

        /** Whether n cells from i on are there; n is taken from the length, as i + n might wrap. */
        boolean holds(int i, int n) {
            return i >= 0 && i <= length && n >= 0 && n <= length - i;
        }

        int at(int i) {
            return i >= 0 && i < length ? cells[i] : 0;
        }

        void write(int i, int v) {
            if (i >= 0 && i < length) {
                cells[i] = cut(v);
            }
        }

        void take(Sheet from, int i, int j, int n) {
            if (from.holds(i, n) && holds(j, n)) {
                System.arraycopy(from.cells, i, cells, j, n);
            }
        }

        private int cut(int v) {
            if (sort == 0) {
                return (byte) v;
            }
            return sort == 1 ? (short) v : v;
        }
    }

    /** What has been left by bodies as they began. */
    private static final class Trace {
        private int all;

        void leave(int body) {
            all = 31 * all + body;
        }

        int all() {
            return all;
        }
    }

    /** Lends a body to those that wake in no way of their own. */
    private interface Waking {
        int ownNumber();

        default int waking(Trace trace) {
            trace.leave(4);
            return ownNumber();
        }
    }

    /** Who never forgets what he has heard. */
    private static class Keeper implements Waking {
        private final int number;
        private final int span;
        private final int[] told;

        /** The row told is the caller's, so that rivers one after another use the same rows. */
        Keeper(int number, int span, int[] told) {
            this.number = number;
            this.span = span;
            this.told = told;
        }

        public int ownNumber() {
            return number;
        }

        final int span() {
            return span;
        }

        int kind() {
            return PLAIN_KIND;
        }

        int telling(Trace trace) {
            return plainTelling(trace);
        }

        /** Apart from telling, for those who leave out what stands between them and a plain keeper. */
        final int plainTelling(Trace trace) {
            trace.leave(1);
            return span;
        }

        /** The year from which on a tale that is told in a year can be told again; NONE: never. */
        int againFrom(int toldYear) {
            return NONE;
        }

        final boolean stillHears(int toldYear, int now) {
            int again = againFrom(toldYear);
            return again == NONE || again > now;
        }

        final int lastTold(int tale) {
            return tale >= 0 && tale < told.length ? told[tale] : NONE;
        }

        final void setTold(int tale, int toldYear) {
            if (tale >= 0 && tale < told.length) {
                told[tale] = toldYear;
            }
        }

        final boolean hasHeard(int tale, int now) {
            int last = lastTold(tale);
            return last != NONE && stillHears(last, now);
        }

        final int tellableFrom(int tale, int now) {
            return hasHeard(tale, now) ? againFrom(lastTold(tale)) : now;
        }
    }

    /** Who forgets by years. */
    private static class Forgetful extends Keeper {
        Forgetful(int number, int span, int[] told) {
            super(number, span, told);
        }

        int kind() {
            return FORGETFUL_KIND;
        }

        int againFrom(int toldYear) {
            return toldYear + span();
        }

        int telling(Trace trace) {
            trace.leave(2);
            return super.telling(trace) + 100;
        }
    }

    /** Who takes half a tale from each of two. */
    private static final class Halving extends Forgetful {
        Halving(int number, int span, int[] told) {
            super(number, span, told);
        }

        int kind() {
            return HALVING_KIND;
        }

        int telling(Trace trace) {
            trace.leave(3);
            int forgetful = super.telling(trace);
            return forgetful + plainTelling(trace);
        }

        public int waking(Trace trace) {
            trace.leave(5);
            return 20;
        }
    }

    /** The last crossings, in a ring: the oldest make way. */
    private static final class Crossings {
        private final int[] bridge;
        private final int[] tale;
        private final int[] before;
        private int next;
        private int count;

        Crossings() {
            bridge = new int[MOST_KEPT];
            tale = new int[MOST_KEPT];
            before = new int[MOST_KEPT];
        }

        void forgetAll() {
            count = 0;
        }

        int count() {
            return count;
        }

        void keep(int overBridge, int byTale, int toldBefore) {
            bridge[next] = overBridge;
            tale[next] = byTale;
            before[next] = toldBefore;
            next = (next + 1) % MOST_KEPT;
            count = Math.min(count + 1, MOST_KEPT);
        }

        void takeBack() {
            next = (next + MOST_KEPT - 1) % MOST_KEPT;
            count = Math.max(count - 1, 0);
        }

        int bridgeTaken() {
            return bridge[next];
        }

        int taleTaken() {
            return tale[next];
        }

        int beforeTaken() {
            return before[next];
        }
    }

    /** A row of bridges; those over which it goes more than once need another tale each time. */
    private static final class Journey {
        private final int[] bridge;
        private final int[] fresh;
        private final int[] timesBefore;
        private int steps;
        private int coin;
        private int row;

        Journey() {
            bridge = new int[MOST_STEPS];
            fresh = new int[MOST_STEPS];
            timesBefore = new int[MOST_STEPS];
        }

        void begin() {
            steps = 0;
        }

        void goOver(int next, int freshThere) {
            if (steps >= MOST_STEPS) {
                return;
            }
            int times = 0;
            for (int step = 0; step < steps; step++) {
                if (bridge[step] == next) {
                    times++;
                }
            }
            bridge[steps] = next;
            fresh[steps] = freshThere;
            timesBefore[steps] = times;
            steps++;
        }

        int coin() {
            return coin;
        }

        int taleAt(int step) {
            if (coin == NONE || step < 0 || step >= steps) {
                return NONE;
            }
            return row >> 3 * (steps - 1 - step) & 7;
        }

        long rowsOf(int tales) {
            long rows = 1;
            for (int step = 0; step < steps; step++) {
                rows *= choices(tales, step);
            }
            return rows;
        }

        /** Tries every set to buy: the rows of one set differ from its first one by later tales alone. */
        void choose(int known, int tales, int[] prices) {
            coin = NONE;
            row = 0;
            for (int bought = 0; bought < 1 << tales; bought++) {
                if ((bought & known) == 0 && rowsOf(known | bought) != 0) {
                    offer(costOf(bought, prices), known | bought);
                }
            }
        }

        private void offer(int cost, int set) {
            if (coin != NONE && cost > coin) {
                return;
            }
            int first = firstRow(set);
            if (coin == NONE || cost < coin || first < row) {
                coin = cost;
                row = first;
            }
        }

        private int choices(int tales, int step) {
            return Math.max(0, Integer.bitCount(tales & fresh[step]) - timesBefore[step]);
        }

        private static int costOf(int set, int[] prices) {
            int cost = 0;
            for (int tale = 0; tale < prices.length; tale++) {
                if (has(set, tale)) {
                    cost += prices[tale];
                }
            }
            return cost;
        }

        /** As an octal number, a digit for a tale, so that the first row is the least number. */
        private int firstRow(int tales) {
            int digits = 0;
            for (int step = 0; step < steps; step++) {
                digits = digits << 3 | memberAt(tales & fresh[step], timesBefore[step]);
            }
            return digits;
        }

        private static int memberAt(int set, int place) {
            int ahead = 0;
            for (int tale = 0; tale < MOST_TALES; tale++) {
                if (has(set, tale)) {
                    if (ahead == place) {
                        return tale;
                    }
                    ahead++;
                }
            }
            return 0;
        }
    }

    /** All travellers at one bridge. By Hall: all of a crowd can cross if no part of it knows fewer tales than it has heads. */
    private static final class Village {
        private final int[] knownBy;
        private int people;

        Village() {
            knownBy = new int[1 << MOST_TRAVELLERS];
        }

        /** Row knownBy: for each part of the crowd (as a set) the fresh tales that anyone in it knows. */
        void gather(int[] known, int travellers, int fresh) {
            people = Math.max(0, Math.min(travellers, Math.min(known.length, MOST_TRAVELLERS)));
            knownBy[0] = 0;
            for (int t = 0; t < people; t++) {
                int alone = 1 << t;
                for (int others = 0; others < alone; others++) {
                    knownBy[others | alone] = knownBy[others] | known[t] & fresh;
                }
            }
        }

        int most() {
            int most = people;
            for (int part = 0; part < 1 << people; part++) {
                int missing = Integer.bitCount(part) - Integer.bitCount(knownBy[part]);
                most = Math.min(most, people - missing);
            }
            return most;
        }

        int cover(int tales, int fresh) {
            int best = NONE;
            int fewest = MOST_TALES + 1;
            for (int set = 0; set < 1 << tales; set++) {
                int count = Integer.bitCount(set);
                if (count < fewest && allCross(set & fresh)) {
                    best = set;
                    fewest = count;
                }
            }
            return best;
        }

        private boolean allCross(int lent) {
            for (int part = 1; part < 1 << people; part++) {
                if (Integer.bitCount(knownBy[part] | lent) < Integer.bitCount(part)) {
                    return false;
                }
            }
            return true;
        }
    }
}
