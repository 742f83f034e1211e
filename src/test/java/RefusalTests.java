import java.util.ArrayList;
import java.util.List;

/**
 * Each refusal and each fault that a promise's line names, in the order of the line: what is answered, what fault() tells then,
 * and that nothing else has changed.
 */
public final class RefusalTests {
    private static final int UNKNOWN = -1, OUTSIDE = -2, STATE = -3, FULL = -4;
    private static final int NO_FAULT = 0, NULL = 1, CAST = 2, INDEX = 3, SIZE = 4;
    private static final int BYTES = 0, SHORTS = 1, INTS = 2;
    private static final int TEXT = 0, ROUTE = 1, OTHER = 2, NOTHING = 3;
    private static final int LAID = 11, STEPS = 7, OTHERS = 7;
    private static final int MIN = Integer.MIN_VALUE, MAX = Integer.MAX_VALUE;
    private static final long LOST = Long.MIN_VALUE;
    private static final Checks CHECKS = new Checks();

    private interface Call {
        long of(TollTales x);
    }

    private interface Making {
        TollTales of();
    }

    /** A call on a journey, so that the same rows serve least(), plan() and ways(). */
    private interface Going {
        long of(TollTales x, int t, int sheet, int sort, int i, int n);
    }

    public static void main(String[] args) {
        river();
        ofBridge();
        price();
        years();
        traveller();
        knows();
        buy();
        cross();
        together();
        toldIn();
        undo();
        journey("13 least", (x, t, k, sort, i, n) -> x.least(t, k, sort, i, n), false);
        journey("14 plan", (x, t, k, sort, i, n) -> x.plan(t, k, sort, i, n, 0), false);
        journey("15 ways", (x, t, k, sort, i, n) -> x.ways(t, k, sort, i, n), true);
        placesOfAPlan();
        village();
        lasts();
        which();
        worth();
        debt();
        sheet();
        lose();
        put();
        cell();
        copy();
        tell();
        wake();
        as();
        many();
        texts();
        CHECKS.end();
    }

    /** Something of everything: three bridges, three travellers, the year 5, four crossings, three rows and a sheet of nothing. */
    private static TollTales made() {
        TollTales x = Checks.by("r3;k1;f2;h9");
        x.traveller(0b011);
        x.traveller(0b110);
        x.traveller(0);
        x.price(0, 10);
        x.price(2, 30);
        x.cross(0, 0, 0);
        x.cross(0, 1, 0);
        x.years(4);
        x.cross(0, 1, 0);
        x.years(1);
        x.together(0, 1, 2, 1);
        x.tell(2);
        x.sheet(TEXT, BYTES, LAID);
        x.put(TEXT, 0, -5);
        x.sheet(ROUTE, SHORTS, STEPS);
        x.put(ROUTE, 1, 1);
        x.put(ROUTE, 2, 2);
        x.put(ROUTE, 3, 3);
        x.put(ROUTE, 4, -1);
        Checks.row(x, OTHER, 1, 2, 3, 4, 5, 6, 7);
        return x;
    }

    private static TollTales full() {
        TollTales x = made();
        for (int t = 3; t < 6; t++) {
            x.traveller(1);
        }
        return x;
    }

    private static TollTales withoutRiver() {
        TollTales x = new TollTales();
        x.sheet(TEXT, BYTES, LAID);
        return x;
    }

    /** All that can be seen of an object; it is used up by this, as its crossings are undone one by one. */
    private static List<Long> seen(TollTales x) {
        List<Long> all = new ArrayList<>();
        all.add((long) x.fault());
        all.add((long) x.trace());
        for (int what = 0; what < 5; what++) {
            all.add((long) x.many(what));
        }
        for (int t = 0; t < x.many(2); t++) {
            all.add((long) x.knows(t));
        }
        for (int tale = 0; tale < x.many(0); tale++) {
            all.add((long) x.price(tale, 0));
        }
        for (int k = 0; k < 4; k++) {
            rowSeen(x, k, all);
        }
        bridgesSeen(x, all);
        while (x.many(4) > 0) {
            all.add((long) x.undo(1));
            bridgesSeen(x, all);
        }
        return all;
    }

    private static void rowSeen(TollTales x, int k, List<Long> all) {
        for (int sort = 0; sort < 3; sort++) {
            for (int i = 0; i <= 40; i++) {
                all.add(x.cell(k, i, sort));
                all.add((long) x.fault());
                if (x.fault() != NO_FAULT) {
                    break;
                }
            }
        }
    }

    private static void bridgesSeen(TollTales x, List<Long> all) {
        for (int b = 0; b < x.many(1); b++) {
            for (int what = 0; what < 3; what++) {
                all.add((long) x.ofBridge(b, what));
            }
            for (int tale = 0; tale < x.many(0); tale++) {
                all.add((long) x.toldIn(b, tale));
            }
        }
    }

    /** With a fault of the call ahead, CAST or INDEX, so that it shows whether the call to be tested leaves it. */
    private static TollTales withFault(Making making, int fault) {
        TollTales x = making.of();
        x.cell(TEXT, LAID, fault == INDEX ? BYTES : INTS);
        return x;
    }

    /** Makes the call twice, with another fault ahead of it each time; faultThen below 0: the one from ahead is due still. */
    private static void changesNothing(Making making, String label, Call call, long answer, int faultThen) {
        for (int ahead : new int[] {CAST, INDEX}) {
            TollTales x = withFault(making, ahead);
            TollTales untouched = withFault(making, ahead);
            CHECKS.due(label + ", fault ahead", x.fault(), ahead);
            CHECKS.due(label, call.of(x), answer);
            CHECKS.due(label + ", fault() then", x.fault(), faultThen < 0 ? ahead : faultThen);
            List<Long> got = seen(x);
            List<Long> want = seen(untouched);
            got.remove(0);
            want.remove(0);
            CHECKS.holds(label + " changes nothing: " + got + " was " + want, got.equals(want));
        }
    }

    /** Of a call that names no faults: fault() stays, too. */
    private static void refused(String label, long answer, Call call) {
        changesNothing(RefusalTests::made, label, call, answer, -1);
    }

    private static void refusedWhere(Making making, String label, long answer, Call call) {
        changesNothing(making, label, call, answer, -1);
    }

    /** Of a call that names faults: fault() is 0 then. */
    private static void cleared(String label, long answer, Call call) {
        changesNothing(RefusalTests::made, label, call, answer, NO_FAULT);
    }

    private static void faulted(String label, int fault, Call call) {
        changesNothing(RefusalTests::made, label, call, -10 - fault, fault);
    }

    private static void lost(String label, int fault, Call call) {
        changesNothing(RefusalTests::made, label, call, LOST, fault);
    }

    private static void river() {
        cleared("2 UNKNOWN: sheet -1", UNKNOWN, x -> x.river(-1, BYTES, 0, 5));
        cleared("2 UNKNOWN: sheet 4", UNKNOWN, x -> x.river(4, BYTES, 0, 5));
        cleared("2 UNKNOWN ahead of OUTSIDE", UNKNOWN, x -> x.river(4, 3, -1, -1));
        cleared("2 OUTSIDE: sort -1", OUTSIDE, x -> x.river(TEXT, -1, 0, 5));
        cleared("2 OUTSIDE: sort 3", OUTSIDE, x -> x.river(TEXT, 3, 0, 5));
        cleared("2 OUTSIDE ahead of CAST and all behind it", OUTSIDE, x -> x.river(TEXT, 3, -1, -1));
        cleared("2 OUTSIDE ahead of NULL", OUTSIDE, x -> x.river(NOTHING, 3, -1, -1));
        faulted("2 CAST: bytes as shorts", CAST, x -> x.river(TEXT, SHORTS, 0, 5));
        faulted("2 CAST: bytes as ints", CAST, x -> x.river(TEXT, INTS, 0, 5));
        faulted("2 CAST: shorts as bytes", CAST, x -> x.river(ROUTE, BYTES, 0, 5));
        faulted("2 CAST: ints as shorts", CAST, x -> x.river(OTHER, SHORTS, 0, 5));
        faulted("2 CAST ahead of SIZE and INDEX", CAST, x -> x.river(TEXT, INTS, -1, -1));
        faulted("2 nothing is no CAST: bytes", NULL, x -> x.river(NOTHING, BYTES, 0, 5));
        faulted("2 nothing is no CAST: shorts", NULL, x -> x.river(NOTHING, SHORTS, 0, 5));
        faulted("2 nothing is no CAST: ints", NULL, x -> x.river(NOTHING, INTS, 0, 5));
        faulted("2 NULL where there was a row of another sort", NULL, x -> {
            x.sheet(NOTHING, INTS, 5);
            x.lose(NOTHING);
            return x.river(NOTHING, BYTES, 0, 5);
        });
        faulted("2 NULL ahead of SIZE and INDEX", NULL, x -> x.river(NOTHING, BYTES, -1, -1));
        faulted("2 SIZE: n is below 0: -1", SIZE, x -> x.river(TEXT, BYTES, 0, -1));
        faulted("2 SIZE: n is below 0: the least", SIZE, x -> x.river(TEXT, BYTES, 0, MIN));
        faulted("2 SIZE ahead of INDEX, i below 0", SIZE, x -> x.river(TEXT, BYTES, -1, -1));
        faulted("2 SIZE ahead of INDEX, i beyond", SIZE, x -> x.river(TEXT, BYTES, LAID + 1, -1));
        faulted("2 INDEX: i below 0", INDEX, x -> x.river(TEXT, BYTES, -1, 5));
        faulted("2 INDEX: one cell too many", INDEX, x -> x.river(TEXT, BYTES, 0, LAID + 1));
        faulted("2 INDEX: one cell too far", INDEX, x -> x.river(TEXT, BYTES, 1, LAID));
        faulted("2 INDEX: i and n at the most", INDEX, x -> x.river(TEXT, BYTES, MAX, MAX));
        faulted("2 INDEX: n at the most, i and n wrap", INDEX, x -> x.river(TEXT, BYTES, 1, MAX));
        faulted("2 INDEX: i at the least, n at the most", INDEX, x -> x.river(TEXT, BYTES, MIN, MAX));
        faulted("2 INDEX: none taken from beyond", INDEX, x -> x.river(TEXT, BYTES, LAID + 1, 0));
        faulted("2 INDEX: none taken from below", INDEX, x -> x.river(TEXT, BYTES, -1, 0));
        cleared("2 none taken at the end is no INDEX", -100, x -> x.river(TEXT, BYTES, LAID, 0));
        cleared("2 all taken is no INDEX", -100, x -> x.river(TEXT, BYTES, 0, LAID));
    }

    private static void ofBridge() {
        refused("3 UNKNOWN: bridge -1", UNKNOWN, x -> x.ofBridge(-1, 0));
        refused("3 UNKNOWN: bridge 3 of 3", UNKNOWN, x -> x.ofBridge(3, 0));
        refused("3 UNKNOWN: the most", UNKNOWN, x -> x.ofBridge(MAX, 0));
        refused("3 UNKNOWN: the least", UNKNOWN, x -> x.ofBridge(MIN, 0));
        refused("3 UNKNOWN ahead of OUTSIDE", UNKNOWN, x -> x.ofBridge(3, 3));
        refused("3 OUTSIDE: what -1", OUTSIDE, x -> x.ofBridge(0, -1));
        refused("3 OUTSIDE: what 3", OUTSIDE, x -> x.ofBridge(0, 3));
        refusedWhere(RefusalTests::withoutRiver, "3 UNKNOWN: no river", UNKNOWN, x -> x.ofBridge(0, 0));
    }

    private static void price() {
        refused("4 UNKNOWN: tale -1", UNKNOWN, x -> x.price(-1, 5));
        refused("4 UNKNOWN: tale 3 of 3", UNKNOWN, x -> x.price(3, 5));
        refused("4 UNKNOWN: the most", UNKNOWN, x -> x.price(MAX, 5));
        refused("4 UNKNOWN ahead of OUTSIDE", UNKNOWN, x -> x.price(3, 100));
        refused("4 OUTSIDE: -1", OUTSIDE, x -> x.price(0, -1));
        refused("4 OUTSIDE: 100", OUTSIDE, x -> x.price(0, 100));
        refused("4 OUTSIDE: the most", OUTSIDE, x -> x.price(0, MAX));
        refused("4 OUTSIDE: the least", OUTSIDE, x -> x.price(0, MIN));
        refusedWhere(RefusalTests::withoutRiver, "4 UNKNOWN: no river", UNKNOWN, x -> x.price(0, 5));
    }

    private static void years() {
        refused("5 OUTSIDE: -1", OUTSIDE, x -> x.years(-1));
        refused("5 OUTSIDE: the least", OUTSIDE, x -> x.years(MIN));
        refused("5 OUTSIDE: beyond year 99", OUTSIDE, x -> x.years(95));
        refused("5 OUTSIDE: the most", OUTSIDE, x -> x.years(MAX));
        refusedWhere(RefusalTests::withoutRiver, "5 STATE: none", STATE, x -> x.years(0));
        refusedWhere(RefusalTests::withoutRiver, "5 STATE: 99", STATE, x -> x.years(99));
        refusedWhere(RefusalTests::withoutRiver, "5 OUTSIDE ahead of STATE: -1", OUTSIDE, x -> x.years(-1));
        refusedWhere(RefusalTests::withoutRiver, "5 OUTSIDE ahead of STATE: 100", OUTSIDE, x -> x.years(100));
    }

    private static void traveller() {
        refused("6 OUTSIDE: a bit of none: the first", OUTSIDE, x -> x.traveller(0b1000));
        refused("6 OUTSIDE: a bit of none beside others", OUTSIDE, x -> x.traveller(0b1111));
        refused("6 OUTSIDE: a bit of none: the last", OUTSIDE, x -> x.traveller(MIN));
        refused("6 OUTSIDE: all bits", OUTSIDE, x -> x.traveller(-1));
        refusedWhere(RefusalTests::withoutRiver, "6 STATE: there is no river", STATE, x -> x.traveller(0));
        refusedWhere(RefusalTests::withoutRiver, "6 OUTSIDE ahead of STATE", OUTSIDE, x -> x.traveller(1));
        refusedWhere(RefusalTests::full, "6 FULL", FULL, x -> x.traveller(0));
        refusedWhere(RefusalTests::full, "6 OUTSIDE ahead of FULL", OUTSIDE, x -> x.traveller(8));
    }

    private static void knows() {
        refused("7 UNKNOWN: -1", UNKNOWN, x -> x.knows(-1));
        refused("7 UNKNOWN: 3 of 3", UNKNOWN, x -> x.knows(3));
        refused("7 UNKNOWN: the most", UNKNOWN, x -> x.knows(MAX));
        refusedWhere(RefusalTests::full, "7 UNKNOWN: 6 of 6", UNKNOWN, x -> x.knows(6));
        refusedWhere(RefusalTests::withoutRiver, "7 UNKNOWN: no river", UNKNOWN, x -> x.knows(0));
    }

    private static void buy() {
        refused("8 UNKNOWN: traveller -1", UNKNOWN, x -> x.buy(-1, 0));
        refused("8 UNKNOWN: traveller 3 of 3", UNKNOWN, x -> x.buy(3, 0));
        refusedWhere(RefusalTests::full, "8 UNKNOWN: traveller 6 of 6", UNKNOWN, x -> x.buy(6, 0));
        refused("8 UNKNOWN: tale -1", UNKNOWN, x -> x.buy(2, -1));
        refused("8 UNKNOWN: tale 3 of 3", UNKNOWN, x -> x.buy(2, 3));
        refused("8 UNKNOWN: tale 32, a bit that wraps", UNKNOWN, x -> x.buy(2, 32));
        refused("8 what it knew: nothing changes", 0, x -> x.buy(0, 0));
    }

    private static void cross() {
        refused("9 UNKNOWN: traveller -1", UNKNOWN, x -> x.cross(-1, 0, 1));
        refused("9 UNKNOWN: traveller 3 of 3", UNKNOWN, x -> x.cross(3, 0, 1));
        refused("9 UNKNOWN: bridge -1", UNKNOWN, x -> x.cross(0, -1, 1));
        refused("9 UNKNOWN: bridge 3 of 3", UNKNOWN, x -> x.cross(0, 3, 1));
        refused("9 UNKNOWN: tale -1", UNKNOWN, x -> x.cross(0, 0, -1));
        refused("9 UNKNOWN: tale 3 of 3", UNKNOWN, x -> x.cross(0, 0, 3));
        refused("9 UNKNOWN: tale 33, a bit that wraps", UNKNOWN, x -> x.cross(0, 0, 33));
        refused("9 UNKNOWN ahead of STATE: bridge", UNKNOWN, x -> x.cross(2, 3, 0));
        refused("9 UNKNOWN ahead of STATE: traveller", UNKNOWN, x -> x.cross(3, 0, 0));
        refused("9 STATE: it does not know it", STATE, x -> x.cross(2, 0, 1));
        refused("9 STATE: it is heard by a keeper", STATE, x -> x.cross(0, 0, 0));
        refused("9 STATE: it is heard by a forgetful one", STATE, x -> x.cross(0, 1, 0));
        refused("9 STATE: it is heard by a halving one", STATE, x -> x.cross(0, 2, 1));
        refused("9 STATE: at a halving one it does not know it", STATE, x -> x.cross(2, 2, 0));
        refusedWhere(RefusalTests::withoutRiver, "9 UNKNOWN: no river", UNKNOWN, x -> x.cross(0, 0, 0));
    }

    private static void together() {
        refused("10 UNKNOWN: traveller -1", UNKNOWN, x -> x.together(-1, 1, 2, 2));
        refused("10 UNKNOWN: traveller 3 of 3", UNKNOWN, x -> x.together(3, 1, 2, 2));
        refused("10 UNKNOWN: other -1", UNKNOWN, x -> x.together(1, -1, 2, 2));
        refused("10 UNKNOWN: other 3 of 3", UNKNOWN, x -> x.together(1, 3, 2, 2));
        refused("10 UNKNOWN: they are one", UNKNOWN, x -> x.together(1, 1, 2, 2));
        refused("10 UNKNOWN: bridge -1", UNKNOWN, x -> x.together(0, 1, -1, 2));
        refused("10 UNKNOWN: bridge 3 of 3", UNKNOWN, x -> x.together(0, 1, 3, 2));
        refused("10 UNKNOWN: tale -1", UNKNOWN, x -> x.together(0, 1, 2, -1));
        refused("10 UNKNOWN: tale 3 of 3", UNKNOWN, x -> x.together(0, 1, 2, 3));
        refused("10 UNKNOWN: tale 34, a bit that wraps", UNKNOWN, x -> x.together(0, 1, 2, 34));
        refused("10 UNKNOWN ahead of STATE: they are one", UNKNOWN, x -> x.together(2, 2, 0, 0));
        refused("10 UNKNOWN ahead of STATE: tale", UNKNOWN, x -> x.together(0, 1, 0, 3));
        refused("10 STATE: the keeper is a plain one", STATE, x -> x.together(0, 1, 0, 2));
        refused("10 STATE: the keeper is a forgetful one", STATE, x -> x.together(0, 1, 1, 2));
        refused("10 STATE: neither knows it", STATE, x -> x.together(0, 2, 2, 2));
        refused("10 STATE: it is heard, both know it", STATE, x -> x.together(0, 1, 2, 1));
        refused("10 STATE: it is heard, one knows it", STATE, x -> x.together(0, 2, 2, 1));
    }

    private static void toldIn() {
        refused("11 UNKNOWN: bridge -1", UNKNOWN, x -> x.toldIn(-1, 0));
        refused("11 UNKNOWN: bridge 3 of 3", UNKNOWN, x -> x.toldIn(3, 0));
        refused("11 UNKNOWN: tale -1", UNKNOWN, x -> x.toldIn(0, -1));
        refused("11 UNKNOWN: tale 3 of 3", UNKNOWN, x -> x.toldIn(0, 3));
        refusedWhere(RefusalTests::withoutRiver, "11 UNKNOWN: no river", UNKNOWN, x -> x.toldIn(0, 0));
    }

    private static void undo() {
        refused("12 OUTSIDE: -1", OUTSIDE, x -> x.undo(-1));
        refused("12 OUTSIDE: the least", OUTSIDE, x -> x.undo(MIN));
        refused("12 OUTSIDE: 5 of 4 kept", OUTSIDE, x -> x.undo(5));
        refused("12 OUTSIDE: the most", OUTSIDE, x -> x.undo(MAX));
        refused("12 none: nothing changes", 4, x -> x.undo(0));
        refusedWhere(RefusalTests::withoutRiver, "12 none without a river", 0, x -> x.undo(0));
        refusedWhere(RefusalTests::withoutRiver, "12 OUTSIDE: one without a river", OUTSIDE, x -> x.undo(1));
    }

    private static void journey(String name, Going going, boolean isLong) {
        journeyRefused(name, going, isLong);
        int[][] faults = {
            {0, TEXT, SHORTS, 0, 1, CAST}, {0, TEXT, INTS, 0, 1, CAST}, {0, ROUTE, BYTES, 0, 1, CAST}, {0, OTHER, SHORTS, 0, 1, CAST},
            {0, ROUTE, INTS, -1, -1, CAST},
            {0, NOTHING, BYTES, 0, 1, NULL}, {0, NOTHING, SHORTS, 0, 1, NULL}, {0, NOTHING, INTS, 0, 1, NULL},
            {0, NOTHING, SHORTS, -1, -1, NULL}, {0, NOTHING, SHORTS, 0, 7, NULL},
            {0, ROUTE, SHORTS, 0, -1, SIZE}, {0, ROUTE, SHORTS, 0, MIN, SIZE}, {0, ROUTE, SHORTS, -1, -1, SIZE},
            {0, ROUTE, SHORTS, STEPS + 1, -1, SIZE},
            {0, ROUTE, SHORTS, -1, 1, INDEX}, {0, ROUTE, SHORTS, STEPS, 1, INDEX}, {0, ROUTE, SHORTS, 2, 6, INDEX},
            {0, ROUTE, SHORTS, MAX, 1, INDEX}, {0, ROUTE, SHORTS, MIN, 1, INDEX}, {0, ROUTE, SHORTS, 3, MAX, INDEX},
            {0, ROUTE, SHORTS, -1, 0, INDEX}, {0, ROUTE, SHORTS, STEPS + 1, 0, INDEX}, {0, ROUTE, SHORTS, 0, STEPS + 1, INDEX},
            {0, ROUTE, SHORTS, -1, 7, INDEX}};
        for (int[] c : faults) {
            String label = name + " fault " + java.util.Arrays.toString(c);
            Call call = x -> going.of(x, c[0], c[1], c[2], c[3], c[4]);
            if (isLong) {
                lost(label, c[5], call);
            } else {
                faulted(label, c[5], call);
            }
        }
    }

    private static void journeyRefused(String name, Going going, boolean isLong) {
        int[][] refusals = {
            {-1, ROUTE, SHORTS, 0, 1, UNKNOWN}, {3, ROUTE, SHORTS, 0, 1, UNKNOWN}, {MAX, ROUTE, SHORTS, 0, 1, UNKNOWN},
            {0, -1, SHORTS, 0, 1, UNKNOWN}, {0, 4, SHORTS, 0, 1, UNKNOWN},
            {3, ROUTE, 3, 0, 1, UNKNOWN}, {0, 4, 3, 0, 1, UNKNOWN}, {3, NOTHING, SHORTS, -1, -1, UNKNOWN},
            {0, ROUTE, -1, 0, 1, OUTSIDE}, {0, ROUTE, 3, 0, 1, OUTSIDE}, {0, NOTHING, 3, -1, -1, OUTSIDE}, {0, ROUTE, 3, -1, 7, OUTSIDE},
            {0, ROUTE, SHORTS, 0, 0, OUTSIDE}, {0, ROUTE, SHORTS, STEPS, 0, OUTSIDE}, {0, ROUTE, SHORTS, 0, 7, OUTSIDE},
            {0, ROUTE, SHORTS, 0, 4, UNKNOWN}, {0, ROUTE, SHORTS, 3, 1, UNKNOWN}, {0, ROUTE, SHORTS, 4, 1, UNKNOWN},
            {0, ROUTE, SHORTS, 4, 2, UNKNOWN}};
        for (int[] c : refusals) {
            cleared(name + " refused " + java.util.Arrays.toString(c), isLong ? LOST : c[5],
                x -> going.of(x, c[0], c[1], c[2], c[3], c[4]));
        }
    }

    private static void placesOfAPlan() {
        cleared("14 UNKNOWN: q -1", UNKNOWN, x -> x.plan(0, ROUTE, SHORTS, 0, 3, -1));
        cleared("14 UNKNOWN: q is n", UNKNOWN, x -> x.plan(0, ROUTE, SHORTS, 0, 3, 3));
        cleared("14 UNKNOWN: q at the most", UNKNOWN, x -> x.plan(0, ROUTE, SHORTS, 0, 3, MAX));
        cleared("14 UNKNOWN: q at the least", UNKNOWN, x -> x.plan(0, ROUTE, SHORTS, 0, 3, MIN));
        cleared("14 NONE: it can't be", TollTales.NONE, x -> x.plan(0, TEXT, BYTES, 1, 3, 2));
        cleared("14 UNKNOWN: q is n, though it can't be", UNKNOWN, x -> x.plan(0, TEXT, BYTES, 1, 3, 3));
        cleared("14 OUTSIDE: n ahead of q", OUTSIDE, x -> x.plan(0, ROUTE, SHORTS, 0, 0, 0));
        cleared("14 OUTSIDE: n of 7 ahead of q", OUTSIDE, x -> x.plan(0, ROUTE, SHORTS, 0, 7, 9));
        faulted("14 INDEX ahead of q", INDEX, x -> x.plan(0, ROUTE, SHORTS, 0, 8, 9));
        cleared("14 a taken one changes nothing but fault()", 1, x -> x.plan(0, ROUTE, SHORTS, 0, 3, 0));
        cleared("13 a taken one changes nothing but fault()", 0, x -> x.least(0, ROUTE, SHORTS, 0, 3));
        cleared("15 a taken one changes nothing but fault()", 1, x -> x.ways(0, ROUTE, SHORTS, 0, 3));
    }

    private static void village() {
        refused("16 UNKNOWN: bridge -1", UNKNOWN, x -> x.village(-1, 0));
        refused("16 UNKNOWN: bridge 3 of 3", UNKNOWN, x -> x.village(3, 1));
        refused("16 UNKNOWN ahead of OUTSIDE", UNKNOWN, x -> x.village(3, 2));
        refused("16 OUTSIDE: what -1", OUTSIDE, x -> x.village(0, -1));
        refused("16 OUTSIDE: what 2", OUTSIDE, x -> x.village(0, 2));
        refused("16 what 0 changes nothing", 2, x -> x.village(0, 0));
        refused("16 what 1 changes nothing", 2, x -> x.village(1, 0));
        refusedWhere(RefusalTests::withoutRiver, "16 UNKNOWN: no river", UNKNOWN, x -> x.village(0, 0));
    }

    private static void lasts() {
        refused("17 UNKNOWN: bridge -1", UNKNOWN, x -> x.lasts(-1));
        refused("17 UNKNOWN: bridge 3 of 3", UNKNOWN, x -> x.lasts(3));
        refused("17 changes nothing", 99, x -> x.lasts(1));
        refusedWhere(RefusalTests::withoutRiver, "17 UNKNOWN: no river", UNKNOWN, x -> x.lasts(0));
    }

    private static void which() {
        refused("18 UNKNOWN: bridge -1", UNKNOWN, x -> x.which(-1, 0, 0, 0));
        refused("18 UNKNOWN: bridge 3 of 3", UNKNOWN, x -> x.which(3, 0, 0, 0));
        refused("18 UNKNOWN ahead of OUTSIDE", UNKNOWN, x -> x.which(3, -1, 8, 8));
        refused("18 OUTSIDE: YEAR -1", OUTSIDE, x -> x.which(0, -1, 7, 1));
        refused("18 OUTSIDE: YEAR later than this one", OUTSIDE, x -> x.which(0, 6, 7, 1));
        refused("18 OUTSIDE: YEAR at the most", OUTSIDE, x -> x.which(0, MAX, 7, 1));
        refused("18 OUTSIDE: tales, a bit of none", OUTSIDE, x -> x.which(0, 0, 8, 0));
        refused("18 OUTSIDE: tales, a bit of none beside others", OUTSIDE, x -> x.which(0, 0, 15, 1));
        refused("18 OUTSIDE: tales, the last bit", OUTSIDE, x -> x.which(0, 0, MIN, 0));
        refused("18 OUTSIDE: heard, a bit of none", OUTSIDE, x -> x.which(0, 0, 7, 8));
        refused("18 OUTSIDE: heard, the last bit", OUTSIDE, x -> x.which(0, 0, 7, MIN));
        refused("18 OUTSIDE: heard and tales, a bit of none", OUTSIDE, x -> x.which(0, 0, 8, 8));
        refused("18 OUTSIDE: heard has one that tales has not", OUTSIDE, x -> x.which(0, 0, 5, 2));
        refused("18 OUTSIDE: heard has one more than tales", OUTSIDE, x -> x.which(0, 0, 5, 7));
        refused("18 OUTSIDE: heard, where tales has none", OUTSIDE, x -> x.which(0, 0, 0, 1));
        refused("18 changes nothing", 0b111, x -> x.which(0, 0, 1, 1));
        refusedWhere(RefusalTests::withoutRiver, "18 UNKNOWN: no river", UNKNOWN, x -> x.which(0, 0, 0, 0));
    }

    private static void worth() {
        refused("19 UNKNOWN: -1", UNKNOWN, x -> x.worth(-1));
        refused("19 UNKNOWN: 3 of 3", UNKNOWN, x -> x.worth(3));
        refused("19 UNKNOWN: the most", UNKNOWN, x -> x.worth(MAX));
        refusedWhere(RefusalTests::withoutRiver, "19 UNKNOWN: no river", UNKNOWN, x -> x.worth(0));
    }

    private static void debt() {
        refused("20 UNKNOWN: bridge -1", UNKNOWN, x -> x.debt(-1, 0));
        refused("20 UNKNOWN: bridge 3 of 3", UNKNOWN, x -> x.debt(3, 0));
        refused("20 UNKNOWN: tale -1", UNKNOWN, x -> x.debt(0, -1));
        refused("20 UNKNOWN: tale 3 of 3", UNKNOWN, x -> x.debt(0, 3));
        refusedWhere(RefusalTests::withoutRiver, "20 UNKNOWN: no river", UNKNOWN, x -> x.debt(0, 0));
    }

    private static void sheet() {
        cleared("21 UNKNOWN: -1", UNKNOWN, x -> x.sheet(-1, BYTES, 1));
        cleared("21 UNKNOWN: 4", UNKNOWN, x -> x.sheet(4, BYTES, 1));
        cleared("21 UNKNOWN ahead of OUTSIDE", UNKNOWN, x -> x.sheet(4, 3, 41));
        cleared("21 UNKNOWN ahead of SIZE", UNKNOWN, x -> x.sheet(4, BYTES, -1));
        cleared("21 OUTSIDE: sort -1", OUTSIDE, x -> x.sheet(TEXT, -1, 1));
        cleared("21 OUTSIDE: sort 3", OUTSIDE, x -> x.sheet(TEXT, 3, 1));
        cleared("21 OUTSIDE: n above 40: 41", OUTSIDE, x -> x.sheet(TEXT, BYTES, 41));
        cleared("21 OUTSIDE: n above 40: the most", OUTSIDE, x -> x.sheet(TEXT, INTS, MAX));
        cleared("21 OUTSIDE: sort ahead of SIZE", OUTSIDE, x -> x.sheet(TEXT, 3, -1));
        cleared("21 OUTSIDE: sort of a sheet that has nothing", OUTSIDE, x -> x.sheet(NOTHING, 3, 1));
        faulted("21 SIZE: -1", SIZE, x -> x.sheet(TEXT, BYTES, -1));
        faulted("21 SIZE: the least", SIZE, x -> x.sheet(TEXT, INTS, MIN));
        faulted("21 SIZE of a sheet that has nothing", SIZE, x -> x.sheet(NOTHING, SHORTS, -1));
    }

    private static void lose() {
        refused("22 UNKNOWN: -1", UNKNOWN, x -> x.lose(-1));
        refused("22 UNKNOWN: 4", UNKNOWN, x -> x.lose(4));
        refused("22 it had nothing: nothing changes", 0, x -> x.lose(NOTHING));
    }

    private static void put() {
        cleared("23 UNKNOWN: -1", UNKNOWN, x -> x.put(-1, 0, 9));
        cleared("23 UNKNOWN: 4", UNKNOWN, x -> x.put(4, -1, 9));
        faulted("23 NULL", NULL, x -> x.put(NOTHING, 0, 9));
        faulted("23 NULL ahead of INDEX: below", NULL, x -> x.put(NOTHING, -1, 9));
        faulted("23 NULL ahead of INDEX: beyond", NULL, x -> x.put(NOTHING, 40, 9));
        faulted("23 INDEX: -1", INDEX, x -> x.put(TEXT, -1, 9));
        faulted("23 INDEX: as many as there are", INDEX, x -> x.put(TEXT, LAID, 9));
        faulted("23 INDEX: shorts", INDEX, x -> x.put(ROUTE, STEPS, 9));
        faulted("23 INDEX: ints", INDEX, x -> x.put(OTHER, OTHERS, 9));
        faulted("23 INDEX: the most", INDEX, x -> x.put(TEXT, MAX, 9));
        faulted("23 INDEX: the least", INDEX, x -> x.put(TEXT, MIN, 9));
    }

    private static void cell() {
        lost("24 UNKNOWN: -1", NO_FAULT, x -> x.cell(-1, 0, BYTES));
        lost("24 UNKNOWN: 4", NO_FAULT, x -> x.cell(4, 0, BYTES));
        lost("24 UNKNOWN ahead of INDEX", NO_FAULT, x -> x.cell(4, -1, BYTES));
        lost("24 OUTSIDE: sort -1", NO_FAULT, x -> x.cell(TEXT, 0, -1));
        lost("24 OUTSIDE: sort 3", NO_FAULT, x -> x.cell(TEXT, 0, 3));
        lost("24 OUTSIDE ahead of NULL", NO_FAULT, x -> x.cell(NOTHING, 0, 3));
        lost("24 OUTSIDE ahead of INDEX", NO_FAULT, x -> x.cell(TEXT, -1, 3));
        lost("24 CAST: bytes as shorts", CAST, x -> x.cell(TEXT, 0, SHORTS));
        lost("24 CAST: bytes as ints", CAST, x -> x.cell(TEXT, 0, INTS));
        lost("24 CAST: shorts as bytes", CAST, x -> x.cell(ROUTE, 0, BYTES));
        lost("24 CAST: ints as bytes", CAST, x -> x.cell(OTHER, 0, BYTES));
        lost("24 CAST ahead of INDEX", CAST, x -> x.cell(TEXT, -1, INTS));
        lost("24 nothing is no CAST: bytes", NULL, x -> x.cell(NOTHING, 0, BYTES));
        lost("24 nothing is no CAST: shorts", NULL, x -> x.cell(NOTHING, 0, SHORTS));
        lost("24 nothing is no CAST: ints", NULL, x -> x.cell(NOTHING, 0, INTS));
        lost("24 NULL ahead of INDEX", NULL, x -> x.cell(NOTHING, -1, BYTES));
        lost("24 INDEX: -1", INDEX, x -> x.cell(TEXT, -1, BYTES));
        lost("24 INDEX: as many as there are", INDEX, x -> x.cell(TEXT, LAID, BYTES));
        lost("24 INDEX: of shorts", INDEX, x -> x.cell(ROUTE, STEPS, SHORTS));
        lost("24 INDEX: of ints", INDEX, x -> x.cell(OTHER, OTHERS, INTS));
        lost("24 INDEX: the most", INDEX, x -> x.cell(TEXT, MAX, BYTES));
        lost("24 INDEX: the least", INDEX, x -> x.cell(TEXT, MIN, BYTES));
        cleared("24 the last one is there", 7, x -> x.cell(OTHER, OTHERS - 1, INTS));
    }

    private static void copy() {
        cleared("25 UNKNOWN: -1", UNKNOWN, x -> x.copy(-1, 0, OTHER, 0, 1));
        cleared("25 UNKNOWN: 4", UNKNOWN, x -> x.copy(4, 0, OTHER, 0, 1));
        cleared("25 UNKNOWN: other -1", UNKNOWN, x -> x.copy(OTHER, 0, -1, 0, 1));
        cleared("25 UNKNOWN: other 4", UNKNOWN, x -> x.copy(OTHER, 0, 4, 0, 1));
        cleared("25 UNKNOWN: other 4 ahead of NULL", UNKNOWN, x -> x.copy(NOTHING, 0, 4, 0, 1));
        faulted("25 NULL: the first", NULL, x -> x.copy(NOTHING, 0, OTHER, 0, 1));
        faulted("25 NULL: the other", NULL, x -> x.copy(OTHER, 0, NOTHING, 0, 1));
        faulted("25 NULL: both", NULL, x -> x.copy(NOTHING, 0, NOTHING, 0, 0));
        faulted("25 NULL ahead of INDEX: the first", NULL, x -> x.copy(NOTHING, -1, OTHER, -1, -1));
        faulted("25 NULL ahead of INDEX: the other", NULL, x -> x.copy(OTHER, -1, NOTHING, -1, -1));
        faulted("25 CAST: ints to bytes", CAST, x -> x.copy(OTHER, 0, TEXT, 0, 1));
        faulted("25 CAST: bytes to shorts", CAST, x -> x.copy(TEXT, 0, ROUTE, 0, 1));
        faulted("25 CAST: shorts to ints", CAST, x -> x.copy(ROUTE, 0, OTHER, 0, 1));
        faulted("25 CAST: of no cells", CAST, x -> x.copy(ROUTE, 0, OTHER, 0, 0));
        faulted("25 CAST ahead of INDEX", CAST, x -> x.copy(ROUTE, -1, OTHER, -1, -1));
        faulted("25 INDEX: i below 0", INDEX, x -> x.copy(OTHER, -1, OTHER, 0, 1));
        faulted("25 INDEX: j below 0", INDEX, x -> x.copy(OTHER, 0, OTHER, -1, 1));
        faulted("25 INDEX: n below 0", INDEX, x -> x.copy(OTHER, 1, OTHER, 1, -1));
        faulted("25 INDEX: n at the least", INDEX, x -> x.copy(OTHER, 1, OTHER, 1, MIN));
        faulted("25 INDEX: i beyond", INDEX, x -> x.copy(OTHER, OTHERS, OTHER, 0, 1));
        faulted("25 INDEX: j beyond", INDEX, x -> x.copy(OTHER, 0, OTHER, OTHERS, 1));
        faulted("25 INDEX: n beyond", INDEX, x -> x.copy(OTHER, 0, OTHER, 0, OTHERS + 1));
        faulted("25 INDEX: i and n beyond", INDEX, x -> x.copy(OTHER, 1, OTHER, 0, OTHERS));
        faulted("25 INDEX: j and n beyond", INDEX, x -> x.copy(OTHER, 0, OTHER, 1, OTHERS));
        faulted("25 INDEX: n at the most, i and n wrap", INDEX, x -> x.copy(OTHER, 1, OTHER, 0, MAX));
        faulted("25 INDEX: i at the most", INDEX, x -> x.copy(OTHER, MAX, OTHER, 0, 1));
        faulted("25 INDEX: j at the most", INDEX, x -> x.copy(OTHER, 0, OTHER, MAX, 1));
        faulted("25 INDEX: none from i beyond", INDEX, x -> x.copy(OTHER, OTHERS + 1, OTHER, 0, 0));
        faulted("25 INDEX: none to j beyond", INDEX, x -> x.copy(OTHER, 0, OTHER, OTHERS + 1, 0));
        faulted("25 INDEX: none from i below 0", INDEX, x -> x.copy(OTHER, -1, OTHER, 0, 0));
        faulted("25 INDEX: none to j below 0", INDEX, x -> x.copy(OTHER, 0, OTHER, -1, 0));
        cleared("25 none at the ends: nothing changes", 0, x -> x.copy(OTHER, OTHERS, OTHER, OTHERS, 0));
        cleared("25 all to where they are: nothing changes", 7, x -> x.copy(OTHER, 0, OTHER, 0, OTHERS));
    }

    private static void tell() {
        refused("26 UNKNOWN: -1", UNKNOWN, x -> x.tell(-1));
        refused("26 UNKNOWN: 3 of 3", UNKNOWN, x -> x.tell(3));
        refusedWhere(RefusalTests::withoutRiver, "26 UNKNOWN: no river", UNKNOWN, x -> x.tell(0));
    }

    private static void wake() {
        refused("27 UNKNOWN: -1", UNKNOWN, x -> x.wake(-1));
        refused("27 UNKNOWN: 3 of 3", UNKNOWN, x -> x.wake(3));
        refusedWhere(RefusalTests::withoutRiver, "27 UNKNOWN: no river", UNKNOWN, x -> x.wake(0));
    }

    private static void as() {
        cleared("28 UNKNOWN: -1", UNKNOWN, x -> x.as(-1, 0));
        cleared("28 UNKNOWN: 3 of 3", UNKNOWN, x -> x.as(3, 0));
        cleared("28 UNKNOWN ahead of OUTSIDE", UNKNOWN, x -> x.as(3, 3));
        cleared("28 OUTSIDE: kind -1", OUTSIDE, x -> x.as(0, -1));
        cleared("28 OUTSIDE: kind 3", OUTSIDE, x -> x.as(2, 3));
        cleared("28 OUTSIDE: the most", OUTSIDE, x -> x.as(2, MAX));
        faulted("28 CAST: a plain one is not forgetful", CAST, x -> x.as(0, 1));
        faulted("28 CAST: a plain one is not halving", CAST, x -> x.as(0, 2));
        faulted("28 CAST: a forgetful one is not halving", CAST, x -> x.as(1, 2));
        cleared("28 each is a keeper: a plain one", 1, x -> x.as(0, 0));
        cleared("28 each is a keeper: a forgetful one", 1, x -> x.as(1, 0));
        cleared("28 each is a keeper: a halving one", 1, x -> x.as(2, 0));
        cleared("28 a forgetful one is forgetful", 1, x -> x.as(1, 1));
        cleared("28 a halving one is forgetful", 1, x -> x.as(2, 1));
        cleared("28 a halving one is halving", 1, x -> x.as(2, 2));
    }

    private static void many() {
        refused("31 OUTSIDE: -1", OUTSIDE, x -> x.many(-1));
        refused("31 OUTSIDE: 5", OUTSIDE, x -> x.many(5));
        refused("31 OUTSIDE: the most", OUTSIDE, x -> x.many(MAX));
        refused("31 OUTSIDE: the least", OUTSIDE, x -> x.many(MIN));
        refused("29 trace() changes nothing", ((3 * 31 + 2) * 31 + 1) * 31 + 1, x -> x.trace());
        refused("31 many() changes nothing", 4, x -> x.many(4));
    }

    /** A text that is not taken makes nothing anew, and comes to no fault. */
    private static void texts() {
        noText("", 0);
        noText("q5;k1", 0);
        noText("r0;k1", 1);
        noText("r9;k1", 1);
        noText("r5", 2);
        noText("r5,k1", 2);
        noText("r5;", 3);
        noText("r5;g1", 3);
        noText("r5;k", 4);
        noText("r5;k0", 4);
        noText("r5;k1;", 6);
        noText("r5;k1,f2", 5);
        noText("r5;k1;k1;k1;k1;k1;k1;k1", 20);
    }

    private static void noText(String text, int place) {
        Making laid = () -> {
            TollTales x = made();
            Checks.text(x, NOTHING, INTS, 2, text);
            return x;
        };
        changesNothing(laid, "2 no text: " + text, x -> x.river(NOTHING, INTS, 2, text.length()), -100 - place, NO_FAULT);
    }
}
