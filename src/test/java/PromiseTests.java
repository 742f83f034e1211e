/** A test for each promise: ordinary inputs, the edges that the document names, wrong inputs. */
public final class PromiseTests {
    private static final int UNKNOWN = -1, OUTSIDE = -2, STATE = -3, FULL = -4, NONE = -9;
    private static final int NULL = -11, CAST = -12, INDEX = -13, SIZE = -14;
    private static final long LOST = Long.MIN_VALUE;
    private static final int MIN = Integer.MIN_VALUE, MAX = Integer.MAX_VALUE;
    private static final Checks CHECKS = new Checks();

    public static void main(String[] args) {
        promise1NewObject();
        promise2River();
        promise2RiverRefusals();
        promise2RiverMakesAnew();
        promise3OfBridge();
        promise4Price();
        promise5Years();
        promise6Traveller();
        promise7Knows();
        promise8Buy();
        promise9Cross();
        promise10Together();
        promise11ToldIn();
        promise12Undo();
        promise13Least();
        promise13LeastRefusals();
        promise14Plan();
        promise15Ways();
        promise16Village();
        promise17Lasts();
        promise18Which();
        promise19Worth();
        promise20Debt();
        promise21Sheet();
        promise22Lose();
        promise23Put();
        promise24Cell();
        promise25Copy();
        promise26Tell();
        promise27Wake();
        promise28As();
        promise29Trace();
        promise30Fault();
        promise31Many();
        CHECKS.end();
    }

    private static void due(String call, long got, long want) {
        CHECKS.due(call, got, want);
    }

    private static void promise1NewObject() {
        TollTales x = new TollTales();
        due("1 tales", x.many(0), 0);
        due("1 bridges", x.many(1), 0);
        due("1 travellers", x.many(2), 0);
        due("1 year", x.many(3), 0);
        due("1 crossings", x.many(4), 0);
        due("1 fault", x.fault(), 0);
        due("1 trace", x.trace(), 0);
        for (int k = 0; k < 4; k++) {
            due("1 sheet " + k + " has nothing", x.lose(k), 0);
        }
        due("1 constants", TollTales.UNKNOWN * 10000 + TollTales.OUTSIDE * 1000 + TollTales.STATE * 100
            + TollTales.FULL * 10 + TollTales.NONE, -12349);
        due("1 LOST", TollTales.LOST, LOST);
    }

    private static void promise2River() {
        TollTales x = new TollTales();
        due("2 one bridge", Checks.river(x, "r1;k1"), 1);
        due("2 six bridges", Checks.river(x, "r8;k9;f9;h9;k1;f1;h1"), 6);
        String[] texts = {"", "x", "R5;k1", "r", "r0;k1", "r9;k1", "r5", "r5k", "r5;", "r5;g1", "r5;;1", "r5;k", "r5;k0",
            "r5;k:", "r5;k1 ", "r5;k12", "r5;k1;", "r5;k1;f", "r5;k1;r", "rr", "r5;k1;k1;k1;k1;k1;k1;", "r5;k1;k1;k1;k1;k1;k1x"};
        int[] places = {0, 0, 0, 1, 1, 1, 2, 2, 3, 3, 3, 4, 4,
            4, 5, 5, 6, 7, 6, 1, 20, 20};
        for (int k = 0; k < texts.length; k++) {
            due("2 " + texts[k], Checks.river(x, texts[k]), -100 - places[k]);
            due("2 fault of " + texts[k], x.fault(), 0);
            due("2 bridges behind " + texts[k], x.many(1), 6);
        }
        for (int sort = 0; sort < 3; sort++) {
            Checks.text(x, 1, sort, 3, "r2;f3;h4");
            due("2 text inside a row of " + sort, x.river(1, sort, 3, 8), 2);
            due("2 part of it", x.river(1, sort, 3, 5), 1);
            due("2 not from its start", x.river(1, sort, 2, 8), -100);
        }
        x.sheet(2, 1, 5);
        x.put(2, 0, 'r' + 256);
        due("2 a short is not cut to a byte", x.river(2, 1, 0, 5), -100);
        x.sheet(2, 0, 40);
        Checks.text(x, 3, 0, 35, "r1;k1");
        due("2 at the end of a row of 40", x.river(3, 0, 35, 5), 1);
    }

    private static void promise2RiverRefusals() {
        TollTales x = Checks.by("r5;k1;f2");
        due("2 sheet -1", x.river(-1, 9, 0, -1), UNKNOWN);
        due("2 sheet 4", x.river(4, 0, 0, 5), UNKNOWN);
        due("2 sort -1 ahead of nothing", x.river(1, -1, 0, -1), OUTSIDE);
        due("2 sort 3", x.river(0, 3, 0, 5), OUTSIDE);
        due("2 refused: no fault", x.fault(), 0);
        due("2 nothing is no CAST", x.river(1, 1, 0, -1), NULL);
        due("2 fault NULL", x.fault(), 1);
        due("2 CAST ahead of SIZE", x.river(0, 1, -1, -1), CAST);
        due("2 fault CAST", x.fault(), 2);
        due("2 SIZE ahead of INDEX", x.river(0, 0, -1, -1), SIZE);
        due("2 SIZE at the least", x.river(0, 0, 0, MIN), SIZE);
        due("2 fault SIZE", x.fault(), 4);
        due("2 i below 0", x.river(0, 0, -1, 5), INDEX);
        due("2 too many cells", x.river(0, 0, 0, 10), INDEX);
        due("2 far too many cells", x.river(0, 0, 1, MAX), INDEX);
        due("2 i far beyond", x.river(0, 0, MAX, MAX), INDEX);
        due("2 fault INDEX", x.fault(), 3);
        due("2 no cell of behind the last", x.river(0, 0, 9, 0), -100);
        due("2 fault is gone", x.fault(), 0);
        due("2 no cell of beyond", x.river(0, 0, 10, 0), INDEX);
        due("2 no cell of below 0", x.river(0, 0, -1, 0), INDEX);
        due("2 all stays", x.many(0) * 10 + x.many(1), 52);
    }

    private static void promise2RiverMakesAnew() {
        TollTales x = Checks.by("r3;k1;k2;k3");
        Checks.row(x, 1, 7, 8);
        x.traveller(7);
        x.cross(0, 0, 0);
        x.years(4);
        x.price(1, 50);
        x.tell(0);
        x.put(1, 9, 9);
        due("2 anew", Checks.river(x, "r2;k1"), 1);
        due("2 anew: tales", x.many(0), 2);
        due("2 anew: bridges", x.many(1), 1);
        due("2 anew: travellers", x.many(2), 0);
        due("2 anew: year", x.many(3), 0);
        due("2 anew: crossings", x.many(4), 0);
        due("2 anew: no second bridge", x.ofBridge(1, 0), UNKNOWN);
        due("2 anew: nothing heard", x.ofBridge(0, 2), 3);
        due("2 anew: never told", x.toldIn(0, 0), NONE);
        due("2 anew: price", x.price(1, 2), 1);
        due("2 anew: trace stays", x.trace(), 1);
        due("2 anew: sheets stay", x.cell(1, 1, 2), 8);
        due("2 anew: no traveller", x.knows(0), UNKNOWN);
        due("2 anew: nothing to undo", x.undo(1), OUTSIDE);
    }

    private static void promise3OfBridge() {
        TollTales x = Checks.by("r4;k9;f1;h5");
        for (int b = 0; b < 3; b++) {
            due("3 kind of " + b, x.ofBridge(b, 0), b);
            due("3 fresh at first at " + b, x.ofBridge(b, 2), 15);
        }
        due("3 years 0", x.ofBridge(0, 1), 9);
        due("3 years 1", x.ofBridge(1, 1), 1);
        due("3 years 2", x.ofBridge(2, 1), 5);
        x.traveller(15);
        for (int b = 0; b < 3; b++) {
            x.cross(0, b, b);
            x.cross(0, b, 3);
        }
        due("3 fresh 0", x.ofBridge(0, 2), 6);
        due("3 fresh 1", x.ofBridge(1, 2), 5);
        due("3 fresh 2", x.ofBridge(2, 2), 3);
        x.years(1);
        due("3 fresh 0 behind a year", x.ofBridge(0, 2), 6);
        due("3 fresh 1 behind a year", x.ofBridge(1, 2), 15);
        x.years(3);
        due("3 fresh 2 behind four years", x.ofBridge(2, 2), 3);
        x.years(1);
        due("3 fresh 2 behind five years", x.ofBridge(2, 2), 15);
        due("3 bridge 3", x.ofBridge(3, 9), UNKNOWN);
        due("3 bridge -1", x.ofBridge(-1, 0), UNKNOWN);
        due("3 what -1", x.ofBridge(0, -1), OUTSIDE);
        due("3 what 3", x.ofBridge(0, 3), OUTSIDE);
    }

    private static void promise4Price() {
        TollTales x = Checks.by("r2;k1");
        due("4 first", x.price(0, 0), 1);
        due("4 then", x.price(0, 99), 0);
        due("4 other one", x.price(1, 5), 1);
        due("4 above", x.price(0, 100), OUTSIDE);
        due("4 below", x.price(0, -1), OUTSIDE);
        due("4 refused ones change nothing", x.price(0, 7), 99);
        due("4 no such tale", x.price(2, 100), UNKNOWN);
        due("4 tale -1", x.price(-1, 1), UNKNOWN);
        due("4 no tales", new TollTales().price(0, 1), UNKNOWN);
    }

    private static void promise5Years() {
        TollTales x = Checks.by("r2;k1");
        due("5 none", x.years(0), 0);
        due("5 some", x.years(40), 40);
        due("5 beyond", x.years(60), OUTSIDE);
        due("5 far beyond", x.years(MAX), OUTSIDE);
        due("5 back", x.years(-1), OUTSIDE);
        due("5 to the last", x.years(59), 99);
        due("5 none at the last", x.years(0), 99);
        due("5 one at the last", x.years(1), OUTSIDE);
        due("5 is the year", x.many(3), 99);
        TollTales dry = new TollTales();
        due("5 no river", dry.years(0), STATE);
        due("5 no river, to the last", dry.years(99), STATE);
        due("5 outside ahead of no river", dry.years(100), OUTSIDE);
    }

    private static void promise6Traveller() {
        TollTales x = Checks.by("r3;k1");
        due("6 a bit of none", x.traveller(8), OUTSIDE);
        due("6 below 0", x.traveller(-1), OUTSIDE);
        due("6 the least", x.traveller(MIN), OUTSIDE);
        for (int t = 0; t < 6; t++) {
            due("6 number " + t, x.traveller(t), t);
        }
        due("6 how many", x.many(2), 6);
        due("6 full", x.traveller(0), FULL);
        due("6 outside ahead of full", x.traveller(8), OUTSIDE);
        due("6 all eight", Checks.by("r8;k1").traveller(255), 0);
        due("6 a ninth", Checks.by("r8;k1").traveller(256), OUTSIDE);
        due("6 no river", new TollTales().traveller(0), STATE);
        due("6 no river, no tale", new TollTales().traveller(1), OUTSIDE);
    }

    private static void promise7Knows() {
        TollTales x = Checks.by("r3;k1");
        x.traveller(5);
        x.traveller(0);
        due("7 first", x.knows(0), 5);
        due("7 second", x.knows(1), 0);
        due("7 third", x.knows(2), UNKNOWN);
        due("7 below", x.knows(-1), UNKNOWN);
    }

    private static void promise8Buy() {
        TollTales x = Checks.by("r3;k1");
        x.traveller(1);
        x.traveller(0);
        x.price(0, 9);
        x.price(1, 30);
        x.price(2, 0);
        due("8 known", x.buy(0, 0), 0);
        due("8 its price", x.buy(0, 1), 30);
        due("8 knows it", x.knows(0), 3);
        due("8 once", x.buy(0, 1), 0);
        due("8 for nothing", x.buy(0, 2), 0);
        due("8 knows that", x.knows(0), 7);
        due("8 other knows none", x.knows(1), 0);
        due("8 no traveller", x.buy(2, 0), UNKNOWN);
        due("8 traveller -1", x.buy(-1, 0), UNKNOWN);
        due("8 no tale", x.buy(0, 3), UNKNOWN);
        due("8 tale -1", x.buy(0, -1), UNKNOWN);
    }

    private static void promise9Cross() {
        TollTales x = Checks.by("r3;k1;f2");
        x.traveller(3);
        x.traveller(6);
        due("9 crosses", x.cross(0, 0, 0), 1);
        due("9 heard", x.cross(0, 0, 0), STATE);
        due("9 not known", x.cross(0, 0, 2), STATE);
        due("9 elsewhere", x.cross(0, 1, 0), 1);
        due("9 another tale", x.cross(0, 1, 1), 1);
        due("9 heard from another", x.cross(1, 1, 1), STATE);
        x.years(1);
        due("9 not yet forgotten", x.cross(0, 1, 0), STATE);
        x.years(1);
        due("9 forgotten", x.cross(0, 1, 0), 1);
        due("9 never forgotten", x.cross(0, 0, 0), STATE);
        due("9 crossings", x.many(4), 4);
        due("9 traveller", x.cross(2, 0, 0), UNKNOWN);
        due("9 traveller -1", x.cross(-1, 0, 0), UNKNOWN);
        due("9 bridge", x.cross(0, 2, 0), UNKNOWN);
        due("9 bridge -1", x.cross(0, -1, 0), UNKNOWN);
        due("9 tale", x.cross(0, 0, 3), UNKNOWN);
        due("9 tale -1", x.cross(0, 0, -1), UNKNOWN);
        due("9 knows still", x.knows(0), 3);
    }

    private static void promise10Together() {
        TollTales x = Checks.by("r4;h3;f3;k3");
        x.traveller(3);
        x.traveller(6);
        x.traveller(0);
        due("10 one knows", x.together(0, 2, 0, 0), 1);
        due("10 both know then", x.knows(2), 1);
        due("10 the other knows", x.together(0, 1, 0, 2), 1);
        due("10 the first learns", x.knows(0), 7);
        due("10 both know", x.together(0, 1, 0, 1), 1);
        due("10 one crossing each", x.many(4), 3);
        due("10 heard", x.together(0, 1, 0, 1), STATE);
        due("10 neither knows", x.together(0, 1, 0, 3), STATE);
        due("10 forgetful", x.together(0, 1, 1, 1), STATE);
        due("10 plain", x.together(0, 1, 2, 1), STATE);
        due("10 one alone", x.cross(1, 0, 2), STATE);
        x.years(3);
        due("10 forgotten", x.cross(1, 0, 2), 1);
        due("10 with oneself", x.together(0, 0, 0, 0), UNKNOWN);
        due("10 first", x.together(3, 0, 0, 0), UNKNOWN);
        due("10 other", x.together(0, 3, 0, 0), UNKNOWN);
        due("10 other -1", x.together(0, -1, 0, 0), UNKNOWN);
        due("10 bridge", x.together(0, 1, 3, 0), UNKNOWN);
        due("10 tale", x.together(0, 1, 1, 4), UNKNOWN);
        due("10 refused ones teach nothing", x.knows(1), 6);
    }

    private static void promise11ToldIn() {
        TollTales x = Checks.by("r2;f1;k1");
        x.traveller(3);
        due("11 never", x.toldIn(0, 0), NONE);
        x.cross(0, 0, 0);
        due("11 in year 0", x.toldIn(0, 0), 0);
        x.years(7);
        due("11 though forgotten", x.toldIn(0, 0), 0);
        x.cross(0, 0, 0);
        due("11 the last time", x.toldIn(0, 0), 7);
        due("11 other tale", x.toldIn(0, 1), NONE);
        due("11 other bridge", x.toldIn(1, 0), NONE);
        due("11 bridge", x.toldIn(2, 0), UNKNOWN);
        due("11 bridge -1", x.toldIn(-1, 0), UNKNOWN);
        due("11 tale", x.toldIn(0, 2), UNKNOWN);
        due("11 tale -1", x.toldIn(0, -1), UNKNOWN);
    }

    private static void promise12Undo() {
        TollTales x = Checks.by("r3;f1;h1");
        x.traveller(1);
        x.traveller(0);
        x.cross(0, 0, 0);
        x.years(1);
        x.cross(0, 0, 0);
        x.together(0, 1, 1, 0);
        x.years(1);
        due("12 none", x.undo(0), 3);
        due("12 too many", x.undo(4), OUTSIDE);
        due("12 below", x.undo(-1), OUTSIDE);
        due("12 two at once are one", x.undo(1), 2);
        due("12 never told then", x.toldIn(1, 0), NONE);
        due("12 what it taught stays", x.knows(1), 1);
        due("12 the year stays", x.many(3), 2);
        due("12 one more", x.undo(1), 1);
        due("12 as it was ahead", x.toldIn(0, 0), 0);
        due("12 the first", x.undo(1), 0);
        due("12 as at first", x.toldIn(0, 0), NONE);
        due("12 no more", x.undo(1), OUTSIDE);
        due("12 no river", new TollTales().undo(0), 0);
        due("12 no river, one", new TollTales().undo(1), OUTSIDE);
        undoOfMany();
    }

    private static void undoOfMany() {
        TollTales x = Checks.by("r1;f1");
        x.traveller(1);
        for (int year = 0; year < 33; year++) {
            x.cross(0, 0, 0);
            x.years(1);
        }
        due("12 kept", x.many(4), 30);
        due("12 above those kept", x.undo(31), OUTSIDE);
        due("12 some", x.undo(12), 18);
        due("12 told ahead", x.toldIn(0, 0), 20);
        x.cross(0, 0, 0);
        due("12 goes on", x.many(4), 19);
        due("12 over the new one", x.undo(2), 17);
        due("12 two back", x.toldIn(0, 0), 19);
        due("12 all", x.undo(17), 0);
        due("12 beyond those kept nothing is undone", x.toldIn(0, 0), 2);
    }

    private static void promise13Least() {
        TollTales x = Checks.by("r4;k1;f2;h3");
        x.traveller(1);
        x.traveller(15);
        x.price(1, 10);
        x.price(2, 3);
        x.price(3, 4);
        Checks.row(x, 1, 0, 1, 2, 0, 0, 0);
        due("13 known", x.least(0, 1, 2, 0, 1), 0);
        due("13 one tale at each", x.least(0, 1, 2, 0, 3), 0);
        due("13 one twice", x.least(0, 1, 2, 0, 4), 3);
        due("13 thrice", x.least(0, 1, 2, 0, 5), 7);
        due("13 four times", x.least(0, 1, 2, 0, 6), 17);
        due("13 who knows all", x.least(1, 1, 2, 0, 6), 0);
        x.cross(1, 0, 2);
        due("13 heard ones don't help", x.least(0, 1, 2, 0, 4), 4);
        due("13 can't be", x.least(0, 1, 2, 0, 6), NONE);
        due("13 can't be for who knows all", x.least(1, 1, 2, 0, 6), NONE);
        x.cross(1, 1, 0);
        x.cross(1, 2, 0);
        due("13 one for two bridges", x.least(0, 1, 2, 1, 2), 3);
        due("13 told by none", x.toldIn(0, 0), NONE);
        due("13 bought by none", x.knows(0), 1);
        x.price(3, 0);
        due("13 for nothing", x.least(0, 1, 2, 1, 2), 0);
    }

    private static void promise13LeastRefusals() {
        TollTales x = Checks.by("r2;k1");
        x.traveller(3);
        x.sheet(1, 0, 8);
        x.sheet(3, 1, 1);
        x.put(3, 0, 1);
        int[][] calls = {{1, 1, 0, 0, 1}, {-1, 1, 0, 0, 1}, {0, 4, 9, 0, 1}, {0, -1, 0, 0, 1}, {0, 2, 3, -1, -1}, {0, 1, -1, 0, 1},
            {0, 2, 0, -1, -1}, {0, 1, 1, -1, -1}, {0, 1, 0, -1, -1}, {0, 1, 0, -1, 7}, {0, 1, 0, 0, 9}, {0, 1, 0, 9, 0},
            {0, 1, 0, 8, 1}, {0, 1, 0, 1, MAX}, {0, 1, 0, 8, 0}, {0, 1, 0, 0, 7}, {0, 3, 1, 0, 1}};
        int[] dues = {UNKNOWN, UNKNOWN, UNKNOWN, UNKNOWN, OUTSIDE, OUTSIDE,
            NULL, CAST, SIZE, INDEX, INDEX, INDEX,
            INDEX, INDEX, OUTSIDE, OUTSIDE, UNKNOWN};
        for (int k = 0; k < calls.length; k++) {
            int[] c = calls[k];
            int fault = dues[k] <= NULL ? -10 - dues[k] : 0;
            due("13 refusal " + k, x.least(c[0], c[1], c[2], c[3], c[4]), dues[k]);
            due("13 fault of " + k, x.fault(), fault);
            x.put(2, 0, 0);
            due("14 refusal " + k, x.plan(c[0], c[1], c[2], c[3], c[4], 0), dues[k]);
            due("14 fault of " + k, x.fault(), fault);
            x.put(2, 0, 0);
            due("15 refusal " + k, x.ways(c[0], c[1], c[2], c[3], c[4]), LOST);
            due("15 fault of " + k, x.fault(), fault);
        }
        x.put(2, 0, 0);
        due("13 taken", x.least(0, 1, 0, 0, 2), 0);
        due("13 fault is gone", x.fault(), 0);
        x.put(1, 1, -1);
        due("13 bridge -1", x.least(0, 1, 0, 0, 2), UNKNOWN);
    }

    private static void promise14Plan() {
        TollTales x = Checks.by("r4;k1;f2;h3");
        x.traveller(12);
        x.traveller(0);
        Checks.row(x, 1, 0, 1, 0, 2, 0, 0);
        int[] first = {2, 2, 3, 2};
        for (int q = 0; q < 4; q++) {
            due("14 place " + q, x.plan(0, 1, 2, 0, 4, q), first[q]);
        }
        int[] all = {0, 0, 1, 0, 2, 3};
        for (int q = 0; q < 6; q++) {
            due("14 bought, place " + q, x.plan(1, 1, 2, 0, 6, q), all[q]);
        }
        x.price(3, 0);
        x.price(1, 0);
        due("14 for nothing", x.plan(1, 1, 2, 0, 2, 0), 1);
        due("14 the same", x.plan(1, 1, 2, 0, 2, 1), 1);
        due("14 known or for nothing", x.plan(0, 1, 2, 0, 1, 0), 1);
        x.price(0, 5);
        x.price(2, 5);
        due("14 first of several", x.plan(1, 1, 2, 0, 5, 0), 0);
        due("14 with it", x.plan(1, 1, 2, 0, 5, 2), 1);
        due("14 and", x.plan(1, 1, 2, 0, 5, 4), 3);
        due("14 q -1", x.plan(0, 1, 2, 0, 4, -1), UNKNOWN);
        due("14 q 4", x.plan(0, 1, 2, 0, 4, 4), UNKNOWN);
        due("14 q far", x.plan(0, 1, 2, 0, 4, MAX), UNKNOWN);
        x.cross(0, 0, 2);
        due("14 can't be", x.plan(0, 1, 2, 0, 6, 5), NONE);
        due("14 can't be, q 6", x.plan(0, 1, 2, 0, 6, 6), UNKNOWN);
    }

    private static void promise15Ways() {
        TollTales x = Checks.by("r8;k1;f2;h3;k1;k1;k1");
        x.traveller(255);
        x.traveller(7);
        x.traveller(0);
        Checks.row(x, 1, 0, 1, 2, 3, 4, 5);
        Checks.row(x, 2, 0, 0, 1, 0, 0, 0);
        due("15 all", x.ways(0, 1, 2, 0, 6), 262144);
        due("15 some", x.ways(1, 1, 2, 0, 6), 729);
        due("15 none", x.ways(2, 1, 2, 0, 6), 0);
        due("15 one twice", x.ways(1, 2, 2, 0, 3), 18);
        due("15 one thrice", x.ways(1, 2, 2, 0, 4), 18);
        due("15 one too often", x.ways(1, 2, 2, 0, 5), 0);
        due("15 far too often", x.ways(1, 2, 2, 0, 6), 0);
        due("15 of eight", x.ways(0, 2, 2, 0, 6), 8 * 8 * 7 * 6 * 5 * 4);
        x.cross(1, 0, 1);
        due("15 heard", x.ways(1, 2, 2, 0, 2), 2);
    }

    private static void promise16Village() {
        TollTales x = Checks.by("r4;k1;f2");
        due("16 nobody", x.village(0, 0), 0);
        due("16 nobody's cover", x.village(0, 1), 0);
        x.traveller(1);
        due("16 one", x.village(0, 0), 1);
        due("16 one needs none", x.village(0, 1), 0);
        x.traveller(1);
        due("16 one tale for two", x.village(0, 0), 1);
        due("16 its cover", x.village(0, 1), 2);
        x.traveller(3);
        due("16 two for three", x.village(0, 0), 2);
        due("16 their cover", x.village(0, 1), 4);
        x.traveller(0);
        due("16 two for four", x.village(0, 0), 2);
        due("16 four need all", x.village(0, 1), 12);
        x.cross(0, 0, 0);
        due("16 heard", x.village(0, 0), 1);
        due("16 by none", x.village(0, 1), NONE);
        due("16 other bridge", x.village(1, 1), 12);
        x.traveller(15);
        due("16 five", x.village(1, 0), 3);
        due("16 five by none", x.village(1, 1), NONE);
        due("16 bridge", x.village(2, 9), UNKNOWN);
        due("16 bridge -1", x.village(-1, 0), UNKNOWN);
        due("16 what -1", x.village(0, -1), OUTSIDE);
        due("16 what 2", x.village(0, 2), OUTSIDE);
    }

    private static void promise17Lasts() {
        TollTales x = Checks.by("r3;k9;f3;f4;h1;h9");
        x.traveller(7);
        due("17 plain", x.lasts(0), 3);
        due("17 as many years as tales", x.lasts(1), 99);
        due("17 a year more", x.lasts(2), 3);
        due("17 each year", x.lasts(3), 99);
        due("17 long ones", x.lasts(4), 3);
        x.cross(0, 0, 1);
        x.cross(0, 1, 0);
        x.cross(0, 2, 0);
        x.cross(0, 3, 0);
        due("17 plain, one heard", x.lasts(0), 2);
        due("17 two fresh for three years", x.lasts(1), 2);
        due("17 two fresh for four years", x.lasts(2), 2);
        x.cross(0, 1, 1);
        due("17 one fresh for three years", x.lasts(1), 1);
        x.cross(0, 1, 2);
        due("17 none fresh", x.lasts(1), 0);
        x.cross(0, 3, 1);
        x.cross(0, 3, 2);
        due("17 not in this year", x.lasts(3), 0);
        TollTales y = Checks.by("r3;f3");
        y.traveller(7);
        y.cross(0, 0, 0);
        y.years(1);
        due("17 the first is ready in time", y.lasts(0), 99);
        y.cross(0, 0, 1);
        due("17 one told ahead in this year", y.lasts(0), 1);
        x.years(99);
        due("17 behind the last year", x.lasts(1), 99);
        due("17 plain at the last year", x.lasts(0), 2);
        due("17 bridge", x.lasts(5), UNKNOWN);
        due("17 bridge -1", x.lasts(-1), UNKNOWN);
    }

    private static void promise18Which() {
        TollTales x = Checks.by("r4;k1;f3");
        x.traveller(15);
        x.cross(0, 0, 1);
        x.cross(0, 1, 1);
        x.years(4);
        x.cross(0, 1, 2);
        due("18 plain", x.which(0, 0, 15, 3), 1);
        due("18 told again", x.which(0, 4, 15, 2), 2);
        due("18 one too few", x.which(0, 4, 15, 1), 0);
        due("18 of some", x.which(0, 4, 1, 0), 14);
        due("18 of none", x.which(0, 4, 0, 0), 15);
        due("18 forgotten by now", x.which(1, 1, 15, 4), 15);
        due("18 forgotten and asked", x.which(1, 1, 15, 5), 0);
        due("18 not forgotten", x.which(1, 2, 15, 5), 1);
        due("18 told again later", x.which(1, 2, 15, 6), 2);
        due("18 just it", x.which(1, 4, 15, 4), 4);
        due("18 bridge", x.which(2, -1, 0, 0), UNKNOWN);
        due("18 bridge -1", x.which(-1, 0, 0, 0), UNKNOWN);
        due("18 year -1", x.which(0, -1, 0, 0), OUTSIDE);
        due("18 year to come", x.which(0, 5, 0, 0), OUTSIDE);
        due("18 tale of none", x.which(0, 0, 16, 0), OUTSIDE);
        due("18 tales below 0", x.which(0, 0, -1, 0), OUTSIDE);
        due("18 heard of none", x.which(0, 0, 15, 16), OUTSIDE);
        due("18 heard below 0", x.which(0, 0, 15, -1), OUTSIDE);
        due("18 heard that tales has not", x.which(0, 0, 5, 2), OUTSIDE);
        due("18 nothing changes", x.toldIn(0, 0), NONE);
    }

    private static void promise19Worth() {
        TollTales x = Checks.by("r2;k1;f1;h2");
        x.traveller(3);
        due("19 all", x.worth(0), 3);
        x.cross(0, 0, 0);
        x.cross(0, 1, 0);
        due("19 one left", x.worth(0), 1);
        x.cross(0, 2, 0);
        due("19 none left", x.worth(0), 0);
        due("19 other tale", x.worth(1), 3);
        x.years(1);
        due("19 one forgets", x.worth(0), 1);
        x.years(1);
        due("19 two forget", x.worth(0), 2);
        due("19 tale", x.worth(2), UNKNOWN);
        due("19 tale -1", x.worth(-1), UNKNOWN);
        due("19 no river", new TollTales().worth(0), UNKNOWN);
    }

    private static void promise20Debt() {
        TollTales x = Checks.by("r2;k1;f5;h9");
        x.traveller(3);
        x.years(2);
        due("20 this year", x.debt(0, 0), 2);
        for (int b = 0; b < 3; b++) {
            x.cross(0, b, 0);
        }
        due("20 never", x.debt(0, 0), NONE);
        due("20 forgetful", x.debt(1, 0), 7);
        due("20 halving", x.debt(2, 0), 11);
        x.years(5);
        due("20 just now", x.debt(1, 0), 7);
        x.years(92);
        due("20 long ago", x.debt(1, 0), 99);
        x.cross(0, 2, 0);
        due("20 behind the last year", x.debt(2, 0), 108);
        due("20 bridge", x.debt(3, 0), UNKNOWN);
        due("20 bridge -1", x.debt(-1, 0), UNKNOWN);
        due("20 tale", x.debt(0, 2), UNKNOWN);
        due("20 tale -1", x.debt(0, -1), UNKNOWN);
    }

    private static void promise21Sheet() {
        TollTales x = new TollTales();
        due("21 forty", x.sheet(0, 2, 40), 1);
        due("21 zeros", x.cell(0, 39, 2), 0);
        due("21 none", x.sheet(1, 0, 0), 1);
        due("21 a row of none is no nothing", x.put(1, 0, 1), INDEX);
        x.put(0, 3, 77);
        due("21 refused above", x.sheet(0, 0, 41), OUTSIDE);
        due("21 refused sort", x.sheet(0, 3, -1), OUTSIDE);
        due("21 refused sort -1", x.sheet(0, -1, 1), OUTSIDE);
        due("21 refused: no fault", x.fault(), 0);
        due("21 size", x.sheet(0, 0, -1), SIZE);
        due("21 least size", x.sheet(0, 0, MIN), SIZE);
        due("21 fault", x.fault(), 4);
        due("21 unknown", x.sheet(4, 9, -1), UNKNOWN);
        due("21 unknown -1", x.sheet(-1, 0, 1), UNKNOWN);
        due("21 stays", x.cell(0, 3, 2), 77);
        due("21 anew", x.sheet(0, 2, 4), 1);
        due("21 zero anew", x.cell(0, 3, 2), 0);
        due("21 shorter", x.cell(0, 4, 2), LOST);
        x.sheet(0, 2, 40);
        due("21 longer, zero", x.cell(0, 39, 2), 0);
    }

    private static void promise22Lose() {
        TollTales x = new TollTales();
        x.sheet(2, 0, 0);
        due("22 a row of none", x.lose(2), 1);
        due("22 nothing", x.lose(2), 0);
        due("22 is nothing", x.put(2, 0, 0), NULL);
        due("22 unknown", x.lose(4), UNKNOWN);
        due("22 unknown -1", x.lose(-1), UNKNOWN);
        due("22 names no fault", x.fault(), 1);
        due("22 copy from nothing", x.copy(2, 0, 2, 0, 0), NULL);
    }

    private static void promise23Put() {
        TollTales x = new TollTales();
        for (int sort = 0; sort < 3; sort++) {
            x.sheet(sort, sort, 2);
            due("23 last", x.put(sort, 1, 0x12348081), 1);
            due("23 beyond", x.put(sort, 2, 5), INDEX);
            due("23 below", x.put(sort, -1, 5), INDEX);
            due("23 far", x.put(sort, MAX, 5), INDEX);
            due("23 fault", x.fault(), 3);
        }
        due("23 byte", x.cell(0, 1, 0), -127);
        due("23 short", x.cell(1, 1, 1), -32639);
        due("23 int", x.cell(2, 1, 2), 0x12348081);
        due("23 other cell", x.cell(2, 0, 2), 0);
        due("23 nothing", x.put(3, -1, 5), NULL);
        due("23 fault NULL", x.fault(), 1);
        due("23 unknown", x.put(4, 0, 5), UNKNOWN);
        due("23 unknown -1", x.put(-1, 0, 5), UNKNOWN);
    }

    private static void promise24Cell() {
        TollTales x = new TollTales();
        x.sheet(0, 2, 3);
        x.put(0, 2, MIN);
        due("24 the least", x.cell(0, 2, 2), MIN);
        x.put(0, 2, -1);
        due("24 cell", x.cell(0, 2, 2), -1);
        int[][] lost = {{-1, 0, 0}, {4, 0, 0}, {1, 0, -1}, {0, 0, 3}, {0, 9, 0}, {1, 9, 1}, {0, 3, 2}, {0, -1, 2}, {0, MAX, 2}};
        int[] faults = {0, 0, 0, 0, 2, 1, 3, 3, 3};
        for (int k = 0; k < lost.length; k++) {
            due("24 lost " + k, x.cell(lost[k][0], lost[k][1], lost[k][2]), LOST);
            due("24 fault of " + k, x.fault(), faults[k]);
        }
        due("24 taken", x.cell(0, 0, 2), 0);
        due("24 fault is gone", x.fault(), 0);
    }

    private static void promise25Copy() {
        TollTales x = new TollTales();
        Checks.row(x, 0, 1, 2, 3, 4, 5);
        x.sheet(1, 2, 3);
        x.sheet(2, 1, 3);
        due("25 some", x.copy(0, 2, 1, 1, 2), 2);
        due("25 first", x.cell(1, 1, 2), 3);
        due("25 last", x.cell(1, 2, 2), 4);
        due("25 ahead of it", x.cell(1, 0, 2), 0);
        due("25 on", x.copy(0, 0, 0, 1, 4), 4);
        for (int i = 0; i < 5; i++) {
            due("25 on, cell " + i, x.cell(0, i, 2), Math.max(1, i));
        }
        due("25 back", x.copy(0, 1, 0, 0, 4), 4);
        for (int i = 0; i < 5; i++) {
            due("25 back, cell " + i, x.cell(0, i, 2), Math.min(4, i + 1));
        }
        due("25 none at the ends", x.copy(0, 5, 1, 3, 0), 0);
        int[][] calls = {{4, 0, 1, 0, 1}, {0, 0, 4, 0, 1}, {-1, 0, 0, 0, 1}, {3, -1, 0, 0, -1}, {0, -1, 3, 0, -1}, {0, -1, 2, 0, -1},
            {0, -1, 1, 0, 1}, {0, 0, 1, -1, 1}, {0, 0, 1, 0, -1}, {0, 0, 1, 0, 4}, {1, 0, 0, 0, 4}, {0, 6, 1, 0, 0}, {0, 0, 1, 4, 0},
            {0, 1, 1, 1, MAX}, {0, MAX, 1, 0, 1}, {0, 0, 1, MAX, 1}};
        int[] dues = {UNKNOWN, UNKNOWN, UNKNOWN, NULL, NULL, CAST,
            INDEX, INDEX, INDEX, INDEX, INDEX, INDEX, INDEX, INDEX, INDEX, INDEX};
        for (int k = 0; k < calls.length; k++) {
            int[] c = calls[k];
            due("25 refusal " + k, x.copy(c[0], c[1], c[2], c[3], c[4]), dues[k]);
            due("25 fault of " + k, x.fault(), dues[k] <= NULL ? -10 - dues[k] : 0);
        }
        due("25 nothing changes", x.cell(1, 0, 2), 0);
    }

    private static void promise26Tell() {
        TollTales x = Checks.by("r1;k7;f5;h3");
        due("26 plain", x.tell(0), 7);
        due("26 its trace", x.trace(), 1);
        due("26 forgetful", x.tell(1), 105);
        due("26 its trace", x.trace(), (31 + 2) * 31 + 1);
        due("26 bridge", x.tell(3), UNKNOWN);
        due("26 bridge -1", x.tell(-1), UNKNOWN);
        due("26 no trace", x.trace(), (31 + 2) * 31 + 1);
        TollTales other = Checks.by("r1;h3");
        due("26 halving", other.tell(0), 106);
        due("26 its trace", other.trace(), ((3 * 31 + 2) * 31 + 1) * 31 + 1);
    }

    private static void promise27Wake() {
        TollTales x = Checks.by("r1;k7;k7;f5;h3");
        due("27 first", x.wake(0), 0);
        due("27 second", x.wake(1), 1);
        due("27 forgetful", x.wake(2), 2);
        due("27 lent", x.trace(), (4 * 31 + 4) * 31 + 4);
        due("27 bridge", x.wake(4), UNKNOWN);
        due("27 bridge -1", x.wake(-1), UNKNOWN);
        TollTales other = Checks.by("r1;k1;h3");
        due("27 halving", other.wake(1), 20);
        due("27 its own", other.trace(), 5);
    }

    private static void promise28As() {
        TollTales x = Checks.by("r1;k1;f1;h1");
        for (int b = 0; b < 3; b++) {
            for (int kind = 0; kind < 3; kind++) {
                boolean is = kind <= b;
                due("28 " + b + " as " + kind, x.as(b, kind), is ? 1 : CAST);
                due("28 fault of " + b + " as " + kind, x.fault(), is ? 0 : 2);
            }
        }
        x.as(0, 2);
        due("28 kind 3", x.as(0, 3), OUTSIDE);
        due("28 refused: no fault", x.fault(), 0);
        due("28 kind -1", x.as(0, -1), OUTSIDE);
        x.as(0, 2);
        due("28 bridge", x.as(3, 3), UNKNOWN);
        due("28 unknown: no fault", x.fault(), 0);
        due("28 bridge -1", x.as(-1, 0), UNKNOWN);
    }

    private static void promise29Trace() {
        TollTales x = Checks.by("r1;k1;h2");
        int trace = 0;
        for (int round = 0; round < 9; round++) {
            x.wake(0);
            x.tell(1);
            for (int body : new int[] {4, 3, 2, 1, 1}) {
                trace = 31 * trace + body;
            }
            due("29 round " + round, x.trace(), trace);
        }
        Checks.river(x, "r1;k1");
        due("29 another river", x.trace(), trace);
    }

    private static void promise30Fault() {
        TollTales x = Checks.by("r1;k1");
        due("30 ahead of any", new TollTales().fault(), 0);
        x.as(0, 1);
        due("30 a fault", x.fault(), 2);
        x.tell(0);
        x.many(9);
        x.years(1);
        x.undo(9);
        x.lose(1);
        x.cross(0, 0, 0);
        due("30 others name none", x.fault(), 2);
        x.put(1, 0, 0);
        due("30 the latest", x.fault(), 1);
        x.sheet(1, 0, 1);
        due("30 taken", x.fault(), 0);
        x.as(0, 1);
        x.put(1, 0, 0);
        due("30 put", x.fault(), 0);
        x.as(0, 1);
        x.lose(1);
        x.sheet(1, 0, 41);
        due("30 sheet refused", x.fault(), 0);
        x.sheet(1, 0, 1);
        x.put(1, 1, 0);
        due("30 again", x.fault(), 3);
        x.copy(9, 0, 0, 0, 0);
        due("30 refused", x.fault(), 0);
    }

    private static void promise31Many() {
        TollTales x = Checks.by("r7;k1;k2");
        x.traveller(127);
        x.traveller(1);
        x.traveller(2);
        x.years(9);
        x.cross(0, 0, 0);
        int[] dues = {7, 2, 3, 9, 1};
        for (int what = 0; what < 5; what++) {
            due("31 what " + what, x.many(what), dues[what]);
        }
        due("31 what -1", x.many(-1), OUTSIDE);
        due("31 what 5", x.many(5), OUTSIDE);
    }
}
