/**
 * Each sentence of the document that names an edge: the least and the most, nothing and all, what wraps, what goes by years.
 * What is refused beyond these edges stands in RefusalTests.
 */
public final class EdgeTests {
    private static final int UNKNOWN = -1, OUTSIDE = -2, STATE = -3, FULL = -4, NONE = -9;
    private static final int BYTES = 0, SHORTS = 1, INTS = 2;
    private static final int MIN = Integer.MIN_VALUE, MAX = Integer.MAX_VALUE;
    private static final Checks CHECKS = new Checks();

    public static void main(String[] args) {
        constants();
        anObjectAtFirst();
        texts();
        firstFaults();
        tooSoon();
        whereATextStands();
        anew();
        years();
        hearing();
        travellers();
        buying();
        crossing();
        crossingAtOnce();
        toldIn();
        undoing();
        undoingBeyondThirty();
        lengthsOfJourneys();
        journeysOverOneBridge();
        coins();
        plans();
        ways();
        villages();
        covers();
        lasting();
        which();
        worths();
        freshOnes();
        debts();
        sheets();
        cutting();
        cells();
        copying();
        tellings();
        wakings();
        traces();
        faults();
        howMany();
        fiveHundredAndTwelveCalls();
        CHECKS.end();
    }

    private static void due(String call, long got, long want) {
        CHECKS.due(call, got, want);
    }

    /** A river and a traveller who knows all its tales. */
    private static TollTales walked(String text) {
        TollTales x = Checks.by(text);
        x.traveller((1 << x.many(0)) - 1);
        return x;
    }

    private static void constants() {
        due("UNKNOWN", TollTales.UNKNOWN, -1);
        due("OUTSIDE", TollTales.OUTSIDE, -2);
        due("STATE", TollTales.STATE, -3);
        due("FULL", TollTales.FULL, -4);
        due("NONE is -9", TollTales.NONE, -9);
        due("LOST", TollTales.LOST, Long.MIN_VALUE);
    }

    private static void anObjectAtFirst() {
        for (int what = 0; what < 5; what++) {
            due("1 no river: many " + what, new TollTales().many(what), 0);
        }
        due("1 no bridge", new TollTales().ofBridge(0, 0), UNKNOWN);
        due("1 no tale", new TollTales().worth(0), UNKNOWN);
        due("1 no traveller", new TollTales().knows(0), UNKNOWN);
        due("29 trace is 0 at first", new TollTales().trace(), 0);
        due("30 0 ahead of any", new TollTales().fault(), 0);
        for (int k = 0; k < 4; k++) {
            due("1 sheet " + k + " has nothing", new TollTales().lose(k), 0);
            due("1 sheet " + k + " has nothing to put in", new TollTales().put(k, 0, 0), -11);
        }
    }

    private static void texts() {
        for (int r = 1; r <= 8; r++) {
            TollTales x = new TollTales();
            due("TALES " + r + ": taken", Checks.river(x, "r" + r + ";k1"), 1);
            due("TALES " + r, x.many(0), r);
            due("TALES from 0 on, to " + (r - 1), x.worth(r - 1), 1);
            due("TALES: no " + r, x.worth(r), UNKNOWN);
        }
        for (int many = 1; many <= 6; many++) {
            TollTales x = new TollTales();
            due("BRIDGES " + many + ": taken", Checks.river(x, "r1" + ";k1".repeat(many)), many);
            due("BRIDGES " + many, x.many(1), many);
            due("BRIDGES from 0 on, to " + (many - 1), x.ofBridge(many - 1, 0), 0);
            due("BRIDGES: no " + many, x.ofBridge(many, 0), UNKNOWN);
        }
        for (int span = 1; span <= 9; span++) {
            for (int kind = 0; kind < 3; kind++) {
                TollTales x = new TollTales();
                due("YEARS " + span + " of kind " + kind + ": taken", Checks.river(x, "r1;" + "kfh".charAt(kind) + span), 1);
                due("YEARS " + span, x.ofBridge(0, 1), span);
                due("kind " + kind, x.ofBridge(0, 0), kind);
            }
        }
        TollTales x = Checks.by("r2;h1;k2;f3;f4;k5;h6");
        for (int b = 0; b < 6; b++) {
            due("each BRIDGE its kind: " + b, x.ofBridge(b, 0), new int[] {2, 0, 1, 1, 0, 2}[b]);
            due("each BRIDGE its YEARS: " + b, x.ofBridge(b, 1), b + 1);
        }
    }

    private static long faultOf(String text) {
        return Checks.river(new TollTales(), text);
    }

    private static void firstFaults() {
        String whole = "r5;k1;f2;h3;k4;f5;h6";
        for (int place = 0; place < whole.length(); place++) {
            for (char sign : new char[] {' ', '/', ':', 'x', 'R', 'K', 0, 127}) {
                String text = whole.substring(0, place) + sign + whole.substring(place + 1);
                due("FIRST FAULT of " + text, faultOf(text), -100 - place);
            }
        }
        for (char code = 0; code < 128; code++) {
            due("the first code " + (int) code, faultOf(code + "5;k1"), code == 'r' ? 1 : -100);
            due("a digit 1 .. 8: " + (int) code, faultOf("r" + code + ";k1"), code >= '1' && code <= '8' ? 1 : -101);
            due("a ; " + (int) code, faultOf("r5" + code + "k1"), code == ';' ? 1 : -102);
            due("a letter " + (int) code, faultOf("r5;" + code + "1"), code == 'k' || code == 'f' || code == 'h' ? 1 : -103);
            due("a digit 1 .. 9: " + (int) code, faultOf("r5;k" + code), code >= '1' && code <= '9' ? 1 : -104);
            due("another ; " + (int) code, faultOf("r5;k1" + code + "k1"), code == ';' ? 2 : -105);
        }
        due("the ; of a seventh BRIDGE", faultOf(whole + ";"), -120);
        due("a seventh BRIDGE", faultOf(whole + ";k1"), -120);
        due("no ; of a seventh BRIDGE", faultOf(whole + "k"), -120);
        due("the first fault of two", faultOf("r9;x1"), -101);
        due("the first fault and too soon", faultOf("r5;x"), -103);
        due("the first fault ahead of a seventh BRIDGE", faultOf("r5;k1;k1;k1;k1;k1;z1;k1"), -118);
    }

    private static void tooSoon() {
        String whole = "r5;k1;f2;h3;k4;f5;h6";
        for (int codes = 0; codes <= whole.length(); codes++) {
            boolean ended = codes >= 5 && codes % 3 == 2;
            due("it ends behind " + codes, faultOf(whole.substring(0, codes)), ended ? (codes - 2) / 3 : -100 - codes);
        }
    }

    private static void whereATextStands() {
        for (int sort = 0; sort < 3; sort++) {
            TollTales x = new TollTales();
            Checks.text(x, 3, sort, 30, "r5;k1;f2");
            due("of n cells from i on, sort " + sort, x.river(3, sort, 30, 8), 2);
            due("of fewer cells", x.river(3, sort, 30, 5), 1);
            due("of one cell too few", x.river(3, sort, 30, 7), -107);
            due("of one cell more", x.river(3, sort, 30, 9), -108);
            due("the place is from 0 on, not from i", x.river(3, sort, 31, 4), -100);
            x.put(3, 33, 'g');
            due("the place of a fault behind i", x.river(3, sort, 30, 8), -103);
        }
        TollTales x = new TollTales();
        Checks.text(x, 0, BYTES, 35, "r5;k1");
        due("in the last cells of 40", x.river(0, BYTES, 35, 5), 1);
        Checks.text(x, 1, SHORTS, 0, "r5;k1");
        x.put(1, 3, 'k' + 256);
        due("shorts are no bytes", x.river(1, SHORTS, 0, 5), -103);
        Checks.text(x, 2, INTS, 0, "r5;k1");
        x.put(2, 3, 'k' + 65536);
        due("ints are no shorts", x.river(2, INTS, 0, 5), -103);
        Checks.text(x, 2, BYTES, 0, "r5;k1");
        x.put(2, 3, 'k' + 256);
        due("what was cut to a byte is a code", x.river(2, BYTES, 0, 5), 1);
        x.put(2, 0, 'r' - 256);
        due("with its sign cut, too", x.river(2, BYTES, 0, 5), 1);
    }

    private static TollTales used() {
        TollTales x = walked("r3;k1;k2");
        x.traveller(1);
        x.price(1, 50);
        x.cross(0, 0, 0);
        x.years(7);
        x.cross(0, 1, 2);
        x.tell(0);
        Checks.row(x, 1, 7, 8);
        return x;
    }

    private static void anew() {
        String[] next = {"r3;k1;k2", "r8;h9;h9;h9;h9;h9;h9", "r1;f1"};
        for (String text : next) {
            TollTales x = used();
            Checks.river(x, text);
            due("anew: YEAR 0", x.many(3), 0);
            due("anew: no TRAVELLERS", x.many(2), 0);
            due("anew: no CROSSINGS", x.many(4), 0);
            due("anew: nothing to undo", x.undo(1), OUTSIDE);
            for (int b = 0; b < x.many(1); b++) {
                due("anew: nothing HEARD at " + b, x.ofBridge(b, 2), (1 << x.many(0)) - 1);
                for (int tale = 0; tale < x.many(0); tale++) {
                    due("anew: never told at " + b + ": " + tale, x.toldIn(b, tale), NONE);
                }
            }
            for (int tale = 0; tale < x.many(0); tale++) {
                due("anew: PRICE 1 of " + tale, x.price(tale, 9), 1);
            }
            due("anew, but for TRACE", x.trace(), 1);
            due("anew, but for SHEETS", x.cell(1, 0, INTS) * 10 + x.cell(1, 1, INTS), 78);
            due("anew, but for the SHEET of the text", x.cell(0, 0, BYTES), 'r');
            due("anew: TRAVELLERS from 0 on", x.traveller(1), 0);
        }
        TollTales x = used();
        x.as(0, 2);
        Checks.river(x, "r3;k1");
        due("anew: no fault", x.fault(), 0);
        due("fewer BRIDGES than ahead", x.toldIn(1, 0), UNKNOWN);
        TollTales y = used();
        Checks.river(y, "r1;k1");
        due("fewer TALES than ahead", y.toldIn(0, 1), UNKNOWN);
        due("their bits are none", y.traveller(2), OUTSIDE);
    }

    private static void years() {
        due("5 none go by", Checks.by("r1;k1").years(0), 0);
        due("5 one", Checks.by("r1;k1").years(1), 1);
        due("5 to YEAR 99", Checks.by("r1;k1").years(99), 99);
        due("5 beyond YEAR 99", Checks.by("r1;k1").years(100), OUTSIDE);
        TollTales x = Checks.by("r1;k1");
        x.years(98);
        due("5 two beyond", x.years(2), OUTSIDE);
        due("5 YEAR then", x.years(1), 99);
        due("5 none at YEAR 99", x.years(0), 99);
        due("5 one at YEAR 99", x.years(1), OUTSIDE);
        due("5 the most, that would wrap", x.years(MAX), OUTSIDE);
        due("5 the YEAR stays", x.many(3), 99);
    }

    private static void hearing() {
        TollTales x = walked("r1;k1");
        x.cross(0, 0, 0);
        due("a KEEPER has HEARD it from when it was told", x.ofBridge(0, 2), 0);
        x.years(1);
        due("his YEARS don't matter", x.ofBridge(0, 2), 0);
        x.years(98);
        due("a KEEPER never forgets", x.ofBridge(0, 2), 0);
        due("it can't be told again", x.cross(0, 0, 0), STATE);
        for (char letter : new char[] {'f', 'h'}) {
            for (int span = 1; span <= 9; span++) {
                forgetting(letter, span);
            }
        }
    }

    private static void forgetting(char letter, int span) {
        String who = "" + letter + span;
        TollTales x = walked("r1;" + who);
        x.years(5);
        x.cross(0, 0, 0);
        due(who + " has HEARD it from when it was told", x.ofBridge(0, 2), 0);
        due(who + " not twice in a YEAR", x.cross(0, 0, 0), STATE);
        x.years(span - 1);
        due(who + " has HEARD it ahead of YEAR y and YEARS", x.ofBridge(0, 2), 0);
        due(who + " refuses it still", x.cross(0, 0, 0), STATE);
        x.years(1);
        due(who + " forgets it in YEAR y and YEARS", x.ofBridge(0, 2), 1);
        due(who + " lets over again", x.cross(0, 0, 0), 1);
        x.years(span - 1);
        due(who + " since it was told the last time", x.ofBridge(0, 2), 0);
        x.years(1);
        due(who + " forgets it again", x.ofBridge(0, 2), 1);
        x.years(40);
        due(who + " long ago", x.ofBridge(0, 2), 1);
    }

    private static void travellers() {
        TollTales x = Checks.by("r3;k1");
        for (int t = 0; t < 6; t++) {
            due("6 numbered from 0 on: " + t, x.traveller(7 - t), t);
            due("6 how many: " + t, x.many(2), t + 1);
        }
        due("6 a seventh", x.traveller(0), FULL);
        for (int t = 0; t < 6; t++) {
            due("7 what each knows: " + t, x.knows(t), 7 - t);
        }
        due("6 who knows none", Checks.by("r1;k1").traveller(0), 0);
        for (int r = 1; r <= 8; r++) {
            TollTales y = Checks.by("r" + r + ";k1");
            due("6 all of " + r, y.traveller((1 << r) - 1), 0);
            due("6 all known of " + r, y.knows(0), (1 << r) - 1);
            due("6 the first bit of none of " + r, y.traveller(1 << r), OUTSIDE);
        }
    }

    private static void buying() {
        TollTales x = Checks.by("r3;k1");
        x.traveller(1);
        x.traveller(0);
        due("4 PRICE 1 at first", x.price(0, 0), 1);
        due("4 to 0", x.price(0, 99), 0);
        due("4 to 99", x.price(0, 98), 99);
        due("4 each its own", x.price(1, 99), 1);
        x.price(2, 0);
        due("8 it knew it", x.buy(0, 0), 0);
        due("8 the highest PRICE", x.buy(0, 1), 99);
        due("8 who buys it knows it", x.knows(0), 3);
        due("8 it knows it now", x.buy(0, 1), 0);
        due("8 PRICE 0", x.buy(0, 2), 0);
        due("8 who buys it for 0 knows it", x.knows(0), 7);
        due("8 another one does not", x.knows(1), 0);
        due("8 another one pays, too", x.buy(1, 1), 99);
        due("8 by what the PRICE is then", x.price(1, 5), 99);
        due("8 BUYING is no CROSSING", x.many(4), 0);
        due("8 what is bought can be told", x.cross(0, 0, 2), 1);
    }

    private static void crossing() {
        TollTales x = walked("r8;k1;k1;k1;k1;k1;k1");
        for (int t = 1; t < 6; t++) {
            x.traveller(128);
        }
        due("9 the last of all", x.cross(5, 5, 7), 1);
        due("9 the first of all", x.cross(0, 0, 0), 1);
        due("9 at another BRIDGE", x.cross(0, 4, 7), 1);
        due("9 another one has told it", x.cross(0, 5, 7), STATE);
        due("9 another TALE", x.cross(0, 5, 6), 1);
        due("9 how many", x.many(4), 4);
        due("9 it knows it ever after", x.knows(5), 128);
        TollTales y = walked("r2;h3");
        due("9 alone at a HALVING one", y.cross(0, 0, 1), 1);
    }

    private static TollTales pair() {
        TollTales x = Checks.by("r3;h2;f2;k2");
        x.traveller(0b001);
        x.traveller(0b011);
        x.traveller(0);
        return x;
    }

    private static void crossingAtOnce() {
        due("10 both know", pair().together(0, 1, 0, 0), 1);
        due("10 only the other knows", pair().together(0, 1, 0, 1), 1);
        due("10 only the first knows", pair().together(1, 0, 0, 1), 1);
        due("10 neither knows", pair().together(0, 1, 0, 2), STATE);
        due("10 at a FORGETFUL one", pair().together(0, 1, 1, 0), STATE);
        due("10 at a KEEPER", pair().together(0, 1, 2, 0), STATE);
        due("10 they are one", pair().together(1, 1, 0, 1), UNKNOWN);
        TollTales x = pair();
        x.together(0, 2, 0, 0);
        due("10 one CROSSING", x.many(4), 1);
        due("10 the other knows it ever after", x.knows(2), 1);
        due("10 the first knew it", x.knows(0), 1);
        due("10 it is HEARD then", x.together(1, 0, 0, 0), STATE);
        due("10 told in this YEAR", x.toldIn(0, 0), 0);
        x.undo(1);
        due("10 ever after, though it is undone", x.knows(2), 1);
        x.years(99);
        due("10 ever after, in YEAR 99", x.knows(2), 1);
        TollTales y = pair();
        y.together(2, 1, 0, 1);
        due("10 the first learns it", y.knows(2), 2);
        y.years(1);
        due("10 ahead of YEAR y and YEARS", y.together(2, 1, 0, 1), STATE);
        y.years(1);
        due("10 from YEAR y and YEARS on", y.together(2, 1, 0, 1), 1);
    }

    private static void toldIn() {
        TollTales x = walked("r2;f1;k9");
        due("11 NONE", x.toldIn(0, 0), NONE);
        x.cross(0, 0, 0);
        due("11 YEAR 0 is no NONE", x.toldIn(0, 0), 0);
        x.years(99);
        due("11 though it is forgotten", x.toldIn(0, 0), 0);
        x.cross(0, 0, 0);
        due("11 the last time", x.toldIn(0, 0), 99);
        due("11 another TALE", x.toldIn(0, 1), NONE);
        due("11 another BRIDGE", x.toldIn(1, 0), NONE);
    }

    private static void undoing() {
        TollTales x = walked("r2;f1;h1");
        x.traveller(0);
        due("12 0 of none", x.undo(0), 0);
        x.cross(0, 0, 0);
        x.years(3);
        x.cross(0, 0, 0);
        x.together(0, 1, 1, 1);
        x.buy(1, 0);
        x.price(1, 7);
        x.tell(0);
        x.as(0, 2);
        due("12 0 of some", x.undo(0), 3);
        due("12 one more than are kept", x.undo(4), OUTSIDE);
        due("12 two who CROSS at once: one", x.undo(1), 2);
        due("12 never told, as it was ahead", x.toldIn(1, 1), NONE);
        due("12 not HEARD, as it was ahead", x.ofBridge(1, 2), 3);
        due("12 the one ahead", x.undo(1), 1);
        due("12 told in YEAR 0, as it was ahead", x.toldIn(0, 0), 0);
        due("12 and forgotten, as it was ahead", x.ofBridge(0, 2), 3);
        due("12 all else stays: YEAR", x.many(3), 3);
        due("12 all else stays: what they know", x.knows(1), 3);
        due("12 all else stays: TRAVELLERS", x.many(2), 2);
        due("12 all else stays: PRICES", x.price(1, 7), 7);
        due("12 all else stays: TRACE", x.trace(), 2 * 31 + 1);
        due("12 all else stays: fault()", x.fault(), 2);
        due("12 to none", x.undo(1), 0);
        due("12 never told at all", x.toldIn(0, 0), NONE);
        due("12 one of none", x.undo(1), OUTSIDE);
        due("12 can be told once more", x.cross(0, 0, 0), 1);
        due("12 and is kept", x.many(4), 1);
        TollTales y = walked("r3;k1");
        for (int tale = 0; tale < 3; tale++) {
            y.cross(0, 0, tale);
        }
        due("12 as many as are kept", y.undo(3), 0);
        due("12 all are undone", y.ofBridge(0, 2), 7);
    }

    /** One CROSSING a YEAR by the same TALE, so that the YEAR tells which one is the last. */
    private static TollTales crossedFor(int years) {
        TollTales x = walked("r1;f1");
        for (int year = 0; year < years; year++) {
            x.cross(0, 0, 0);
            x.years(1);
        }
        return x;
    }

    private static void undoingBeyondThirty() {
        due("12 29 are kept", crossedFor(29).many(4), 29);
        due("12 30 are kept", crossedFor(30).many(4), 30);
        due("12 31 are not", crossedFor(31).many(4), 30);
        due("12 far more are not", crossedFor(99).many(4), 30);
        due("12 30 of 30", crossedFor(30).undo(30), 0);
        due("12 30 of 31", crossedFor(31).undo(30), 0);
        due("12 31 of 31", crossedFor(31).undo(31), OUTSIDE);
        TollTales x = crossedFor(75);
        due("12 one of the last 30", x.undo(1), 29);
        due("12 the last one is undone first", x.toldIn(0, 0), 73);
        due("12 all of the last 30", x.undo(29), 0);
        due("12 what is not kept stays", x.toldIn(0, 0), 44);
        due("12 no more", x.undo(1), OUTSIDE);
        x.cross(0, 0, 0);
        due("12 kept again", x.many(4), 1);
        due("12 undone again", x.undo(1), 0);
        due("12 as it was ahead", x.toldIn(0, 0), 44);
        TollTales y = crossedFor(40);
        y.undo(10);
        due("12 what has fallen out does not come back", y.many(4), 20);
        due("12 nor can it be undone", y.undo(21), OUTSIDE);
    }

    private static TollTales route(String text, int... bridges) {
        TollTales x = walked(text);
        Checks.row(x, 1, bridges);
        return x;
    }

    private static void lengthsOfJourneys() {
        int[] everywhere = {5, 4, 3, 2, 1, 0, 0};
        for (int n = 0; n <= 7; n++) {
            TollTales x = route("r8;k1;k1;f1;f1;h1;h1", everywhere);
            boolean can = n >= 1 && n <= 6;
            due("13 over " + n, x.least(0, 1, INTS, 0, n), can ? 0 : OUTSIDE);
            due("14 over " + n, x.plan(0, 1, INTS, 0, n, 0), can ? 0 : OUTSIDE);
            due("15 over " + n, x.ways(0, 1, INTS, 0, n), can ? 1L << 3 * n : TollTales.LOST);
        }
        TollTales x = route("r8;k1", 0, 0, 0, 0, 0, 0, 0, 0);
        due("13 the last six of eight cells", x.least(0, 1, INTS, 2, 6), 0);
        due("13 a BRIDGE behind the row does not matter", route("r2;k1", 0, 9).least(0, 1, INTS, 0, 1), 0);
        due("13 a BRIDGE ahead of the row does not matter", route("r2;k1", 9, 0).least(0, 1, INTS, 1, 1), 0);
        due("13 the last BRIDGE is none", route("r2;k1", 0, 1).least(0, 1, INTS, 0, 2), UNKNOWN);
        due("13 the first BRIDGE is none", route("r2;k1", 1, 0).least(0, 1, INTS, 0, 2), UNKNOWN);
        due("13 BRIDGE -1 is none", route("r2;k1", -1).least(0, 1, INTS, 0, 1), UNKNOWN);
        due("13 a BRIDGE that wraps is none", route("r2;k1", MIN).least(0, 1, INTS, 0, 1), UNKNOWN);
        for (int sort = 0; sort < 3; sort++) {
            TollTales y = walked("r2;k1;k1");
            y.sheet(2, sort, 40);
            y.put(2, 38, 257);
            y.put(2, 39, 1);
            due("13 cells of sort " + sort, y.least(0, 2, sort, 38, 2), sort == BYTES ? 0 : UNKNOWN);
            due("13 the last cell of sort " + sort, y.plan(0, 2, sort, 39, 1, 0), 0);
        }
    }

    private static void journeysOverOneBridge() {
        String[] rivers = {"r3;k1;k1", "r3;f1;k1", "r3;h1;k1"};
        for (String text : rivers) {
            due("13 as often as there are TALES: " + text, route(text, 0, 0, 0).least(0, 1, INTS, 0, 3), 0);
            due("13 once more, all in this YEAR: " + text, route(text, 0, 0, 0, 0).least(0, 1, INTS, 0, 4), NONE);
            due("14 once more: " + text, route(text, 0, 0, 0, 0).plan(0, 1, INTS, 0, 4, 0), NONE);
            due("15 once more: " + text, route(text, 0, 0, 0, 0).ways(0, 1, INTS, 0, 4), 0);
            due("15 as often: " + text, route(text, 0, 0, 0).ways(0, 1, INTS, 0, 3), 6);
            due("15 not hindered elsewhere: " + text, route(text, 0, 1, 0, 1).ways(0, 1, INTS, 0, 4), 36);
        }
        due("13 one TALE for six BRIDGES", route("r1;k1;k1;k1;k1;k1;k1", 0, 1, 2, 3, 4, 5).least(0, 1, INTS, 0, 6), 0);
        TollTales x = route("r1;f2", 0);
        x.cross(0, 0, 0);
        x.years(1);
        due("13 it is HEARD in this YEAR", x.least(0, 1, INTS, 0, 1), NONE);
        x.years(1);
        due("13 it is not HEARD in this YEAR", x.least(0, 1, INTS, 0, 1), 0);
    }

    private static TollTales poor(String text, int... bridges) {
        TollTales x = Checks.by(text);
        x.traveller(0);
        Checks.row(x, 1, bridges);
        return x;
    }

    private static void coins() {
        TollTales x = poor("r8;k1;k1", 0, 0, 0, 0, 0, 0);
        for (int tale = 0; tale < 8; tale++) {
            x.price(tale, 99);
        }
        due("13 the most coin", x.least(0, 1, INTS, 0, 6), 6 * 99);
        for (int tale = 0; tale < 8; tale++) {
            x.price(tale, 0);
        }
        due("13 no coin, all BOUGHT", x.least(0, 1, INTS, 0, 6), 0);
        TollTales y = poor("r2;k1;k1", 0, 1, 0);
        y.price(0, 5);
        y.price(1, 7);
        due("13 once BOUGHT it is told at each", y.least(0, 1, INTS, 0, 2), 5);
        due("13 both", y.least(0, 1, INTS, 0, 3), 12);
        due("13 none are BOUGHT by asking", y.knows(0), 0);
        y.buy(0, 1);
        due("13 what it knows costs none", y.least(0, 1, INTS, 0, 2), 0);
        due("13 the other one", y.least(0, 1, INTS, 0, 3), 5);
        TollTales z = walked("r2;k1");
        Checks.row(z, 1, 0);
        z.traveller(0);
        z.price(0, 1);
        z.price(1, 50);
        z.cross(0, 0, 0);
        due("13 a dear one, as the cheap one is HEARD", z.least(1, 1, INTS, 0, 1), 50);
        z.cross(0, 0, 1);
        due("13 NONE: all are HEARD", z.least(1, 1, INTS, 0, 1), NONE);
    }

    private static void plans() {
        TollTales x = poor("r8;k1;k1", 0, 0, 0, 0, 0, 0);
        for (int q = 0; q < 6; q++) {
            due("14 the first row, place " + q, x.plan(0, 1, INTS, 0, 6, q), q);
        }
        due("14 q is n", x.plan(0, 1, INTS, 0, 6, 6), UNKNOWN);
        due("14 q is -1", x.plan(0, 1, INTS, 0, 6, -1), UNKNOWN);
        x.price(0, 2);
        for (int q = 0; q < 6; q++) {
            due("14 the least coin ahead of the first row, place " + q, x.plan(0, 1, INTS, 0, 6, q), q + 1);
        }
        x.price(0, 0);
        x.price(1, 0);
        x.price(2, 0);
        for (int q = 0; q < 3; q++) {
            due("14 for no coin, place " + q, x.plan(0, 1, INTS, 0, 3, q), q);
        }
        severalOfTheLeastCoin();
        TollTales y = poor("r4;k1;k1", 0, 1, 0);
        y.buy(0, 3);
        due("14 what it knows, first", y.plan(0, 1, INTS, 0, 3, 0), 0);
        due("14 what it knows, at the other", y.plan(0, 1, INTS, 0, 3, 1), 0);
        due("14 what it knows, last", y.plan(0, 1, INTS, 0, 3, 2), 3);
        due("14 what it knows alone", y.plan(0, 1, INTS, 0, 2, 0), 3);
    }

    /** TALE 2 for both BRIDGES costs what 0 and 3 cost, one for each. */
    private static void severalOfTheLeastCoin() {
        TollTales x = walked("r4;k1;k1");
        Checks.row(x, 1, 0, 1);
        x.traveller(0);
        x.cross(0, 0, 1);
        x.cross(0, 0, 3);
        x.cross(0, 1, 0);
        x.cross(0, 1, 1);
        x.price(2, 2);
        due("14 of several of the least coin: coin", x.least(1, 1, INTS, 0, 2), 2);
        due("14 of several of the least coin the first: one TALE each", x.plan(1, 1, INTS, 0, 2, 0), 0);
        due("14 and its end", x.plan(1, 1, INTS, 0, 2, 1), 3);
        x.price(0, 2);
        due("14 the one of less coin: one TALE for both", x.plan(1, 1, INTS, 0, 2, 0), 2);
    }

    private static void ways() {
        due("15 none known: none", poor("r8;k1", 0).ways(0, 1, INTS, 0, 1), 0);
        due("15 BUYING nothing, though for no coin", free().ways(0, 1, INTS, 0, 1), 0);
        due("15 one row", route("r1;k1", 0).ways(0, 1, INTS, 0, 1), 1);
        due("15 the most rows", route("r8;k1;k1;k1;k1;k1;k1", 0, 1, 2, 3, 4, 5).ways(0, 1, INTS, 0, 6), 262144);
        due("15 over one of eight", route("r8;k1", 0, 0, 0, 0, 0, 0).ways(0, 1, INTS, 0, 6), 20160);
        due("15 more often than there are TALES by two", route("r1;k1", 0, 0, 0).ways(0, 1, INTS, 0, 3), 0);
        due("15 by three", route("r1;k1", 0, 0, 0, 0).ways(0, 1, INTS, 0, 4), 0);
    }

    private static TollTales free() {
        TollTales x = poor("r1;k1", 0);
        x.price(0, 0);
        return x;
    }

    private static TollTales village(String text, int... known) {
        TollTales x = Checks.by(text);
        for (int set : known) {
            x.traveller(set);
        }
        return x;
    }

    private static void villages() {
        due("16 nobody", village("r3;k1").village(0, 0), 0);
        due("16 one who knows none", village("r3;k1", 0).village(0, 0), 0);
        due("16 six by six", village("r8;k1", 255, 255, 255, 255, 255, 255).village(0, 0), 6);
        due("16 six by one", village("r8;k1", 128, 128, 128, 128, 128, 128).village(0, 0), 1);
        due("16 six of a village with five TALES", village("r5;k1", 31, 31, 31, 31, 31, 31).village(0, 0), 5);
        due("16 each by another TALE", village("r3;k1", 1, 1, 3).village(0, 0), 2);
        due("16 who gives way", village("r3;k1", 7, 3, 1).village(0, 0), 3);
        TollTales x = village("r2;f1;h1", 3, 3);
        x.cross(0, 0, 0);
        due("16 in this YEAR: HEARD", x.village(0, 0), 1);
        due("16 in this YEAR: at the other one", x.village(1, 0), 2);
        x.years(1);
        due("16 in this YEAR: forgotten", x.village(0, 0), 2);
        due("16 BUYING nothing", village("r2;k1", 1, 0).village(0, 0), 1);
        due("16 at a HALVING one each alone", village("r1;h1", 1, 1).village(0, 0), 1);
    }

    private static void covers() {
        due("16 nobody's COVER", village("r3;k1").village(0, 1), 0);
        due("16 none needed", village("r3;k1", 1, 2, 4).village(0, 1), 0);
        due("16 of several the least", village("r3;k1", 0).village(0, 1), 1);
        due("16 the fewest ahead of the least", village("r3;k1", 1, 2, 3).village(0, 1), 4);
        due("16 all", village("r6;k1", 0, 0, 0, 0, 0, 0).village(0, 1), 63);
        due("16 the least six of eight", village("r8;k1", 0, 0, 0, 0, 0, 0).village(0, 1), 63);
        due("16 NONE: too few TALES", village("r5;k1", 31, 31, 31, 31, 31, 31).village(0, 1), NONE);
        TollTales x = village("r3;k1", 0, 1);
        x.cross(1, 0, 0);
        due("16 HEARD ones don't help", x.village(0, 1), 6);
        x.buy(0, 1);
        due("16 the one left", x.village(0, 1), 4);
        x.cross(0, 0, 1);
        due("16 NONE: one is left for two", x.village(0, 1), NONE);
        due("16 what all know can't help twice", village("r4;k1", 3, 3, 3).village(0, 1), 4);
        due("16 one that another one knows already", village("r3;k1", 3, 0).village(0, 1), 1);
        due("16 none that all need themselves", village("r2;k1", 1, 0).village(0, 1), 2);
    }

    private static void lasting() {
        for (int r = 1; r <= 8; r++) {
            due("17 a KEEPER: each TALE once: " + r, Checks.by("r" + r + ";k1").lasts(0), r);
            for (int span = 1; span <= 9; span++) {
                due("17 " + r + " TALES, YEARS " + span, Checks.by("r" + r + ";f" + span).lasts(0), r >= span ? 99 : r);
                due("17 HALVING, " + r + " TALES, YEARS " + span, Checks.by("r" + r + ";h" + span).lasts(0), r >= span ? 99 : r);
            }
        }
        TollTales x = walked("r1;f1;k1;f2");
        x.years(99);
        due("17 YEARS behind 99, too", x.lasts(0), 99);
        x.cross(0, 0, 0);
        x.cross(0, 1, 0);
        due("17 none in this YEAR", x.lasts(0), 0);
        due("17 none ever", x.lasts(1), 0);
        due("17 one YEAR", x.lasts(2), 1);
        TollTales y = walked("r2;f3");
        y.cross(0, 0, 0);
        y.years(1);
        due("17 a gap ends it", y.lasts(0), 1);
        y.years(1);
        due("17 no gap for two", y.lasts(0), 2);
        TollTales z = walked("r2;f2");
        z.cross(0, 0, 0);
        z.years(1);
        due("17 forgotten just in time", z.lasts(0), 99);
        z.cross(0, 0, 1);
        due("17 told in this YEAR already", z.lasts(0), 0);
    }

    private static void which() {
        TollTales x = walked("r3;k2;f2");
        due("18 the first YEAR", x.which(0, 0, 7, 1), 1);
        due("18 of no TALES all", x.which(0, 0, 0, 0), 7);
        due("18 none of some: the others", x.which(0, 0, 3, 0), 4);
        due("18 none of all: none", x.which(0, 0, 7, 0), 0);
        due("18 two at once: none", x.which(0, 0, 7, 3), 0);
        x.cross(0, 0, 0);
        due("18 besides all that was", x.which(0, 0, 7, 5), 4);
        due("18 the one that was", x.which(0, 0, 7, 1), 1);
        due("18 without the one that was: none", x.which(0, 0, 7, 4), 0);
        due("18 that was not asked for", x.which(0, 0, 6, 4), 4);
        x.years(3);
        due("18 this YEAR", x.which(1, 3, 7, 2), 2);
        due("18 HEARD still", x.which(1, 2, 7, 2), 2);
        due("18 forgotten by now", x.which(1, 1, 7, 2), 0);
        due("18 forgotten by now, HEARD none", x.which(1, 1, 7, 0), 7);
        due("18 HEARD still, so not none", x.which(1, 2, 7, 0), 0);
        due("18 a KEEPER hears from YEAR 0 on", x.which(0, 0, 7, 3), 2);
        due("18 the next YEAR", x.which(1, 4, 7, 2), OUTSIDE);
        TollTales y = walked("r8;f1");
        y.years(99);
        due("18 YEAR 99, the last TALE", y.which(0, 99, 255, 128), 128);
        due("18 YEAR 98", y.which(0, 98, 255, 0), 255);
    }

    private static void worths() {
        TollTales x = walked("r2;k1;k1;f1;f9;h1;h9");
        due("19 all six", x.worth(1), 6);
        for (int b = 0; b < 6; b++) {
            x.cross(0, b, 1);
            due("19 less " + (b + 1), x.worth(1), 5 - b);
        }
        due("19 another TALE", x.worth(0), 6);
        x.years(1);
        due("19 who forget at once", x.worth(1), 2);
        x.years(8);
        due("19 who forget at all", x.worth(1), 4);
    }

    private static void freshOnes() {
        TollTales x = walked("r8;k1");
        due("3 all FRESH", x.ofBridge(0, 2), 255);
        for (int tale = 0; tale < 8; tale++) {
            x.cross(0, 0, tale);
            due("3 FRESH without " + tale, x.ofBridge(0, 2), 255 & 255 << tale + 1);
        }
    }

    private static void debts() {
        TollTales x = walked("r2;k1;f9;h1");
        due("20 this YEAR, 0", x.debt(0, 0), 0);
        x.years(99);
        due("20 this YEAR, 99", x.debt(0, 0), 99);
        for (int b = 0; b < 3; b++) {
            x.cross(0, b, 0);
        }
        due("20 NONE: never", x.debt(0, 0), NONE);
        due("20 no bound: a FORGETFUL one", x.debt(1, 0), 108);
        due("20 no bound: a HALVING one", x.debt(2, 0), 100);
        due("20 another TALE", x.debt(1, 1), 99);
        TollTales y = walked("r1;f3");
        y.years(5);
        y.cross(0, 0, 0);
        for (int year = 5; year < 10; year++) {
            due("20 in YEAR " + year, y.debt(0, 0), Math.max(8, year));
            due("20 it can be told from then on: " + year, y.ofBridge(0, 2), year < 8 ? 0 : 1);
            y.years(1);
        }
    }

    private static void sheets() {
        for (int sort = 0; sort < 3; sort++) {
            for (int n : new int[] {0, 1, 39, 40}) {
                TollTales x = new TollTales();
                due("21 a row of " + n, x.sheet(3, sort, n), 1);
                for (int i = 0; i < n; i++) {
                    due("21 0 at first: cell " + i + " of " + n, x.cell(3, i, sort), 0);
                }
                due("21 no cell " + n, x.cell(3, n, sort), TollTales.LOST);
                due("21 INDEX: no cell " + n, x.fault(), 3);
                due("22 it had a row of " + n, x.lose(3), 1);
                due("22 it had nothing", x.lose(3), 0);
            }
            due("21 41", new TollTales().sheet(0, sort, 41), OUTSIDE);
            due("21 -1", new TollTales().sheet(0, sort, -1), -14);
        }
        TollTales x = new TollTales();
        for (int k = 0; k < 4; k++) {
            Checks.row(x, k, k + 10, k + 20);
        }
        for (int k = 0; k < 4; k++) {
            due("21 each its own row: " + k, x.cell(k, 1, INTS), k + 20);
        }
        x.sheet(2, BYTES, 2);
        due("21 a new row is 0 at first", x.cell(2, 1, BYTES), 0);
        due("21 the old SORT is gone", x.cell(2, 1, INTS), TollTales.LOST);
        due("21 another one stays", x.cell(1, 1, INTS), 21);
        x.lose(1);
        x.sheet(1, INTS, 2);
        due("22 what is lost does not come back", x.cell(1, 1, INTS), 0);
    }

    private static void cutting() {
        int[] v = {0, 127, 128, 255, 256, -128, -129, 32767, 32768, 65535, 65536, -32768, -32769, MAX, MIN, -1};
        for (int value : v) {
            TollTales x = new TollTales();
            for (int sort = 0; sort < 3; sort++) {
                x.sheet(sort, sort, 1);
                due("23 put " + value, x.put(sort, 0, value), 1);
            }
            due("cut to a byte: " + value, x.cell(0, 0, BYTES), Math.floorMod(value + 128L, 256L) - 128);
            due("cut to a short: " + value, x.cell(1, 0, SHORTS), Math.floorMod(value + 32768L, 65536L) - 32768);
            due("not cut: " + value, x.cell(2, 0, INTS), value);
        }
    }

    private static void cells() {
        TollTales x = new TollTales();
        x.sheet(0, INTS, 40);
        x.put(0, 0, 5);
        x.put(0, 39, 6);
        due("24 the first cell", x.cell(0, 0, INTS), 5);
        due("24 the last cell", x.cell(0, 39, INTS), 6);
        due("24 between them", x.cell(0, 1, INTS) + x.cell(0, 38, INTS), 0);
        due("23 a row of none has no cell 0", noCells().put(0, 0, 1), -13);
        due("24 a row of none has no cell 0", noCells().cell(0, 0, BYTES), TollTales.LOST);
        due("24 LOST is no cell of ints", least().cell(0, 0, INTS), MIN);
    }

    private static TollTales noCells() {
        TollTales x = new TollTales();
        x.sheet(0, BYTES, 0);
        return x;
    }

    private static TollTales least() {
        TollTales x = new TollTales();
        Checks.row(x, 0, MIN);
        return x;
    }

    private static TollTales rows() {
        TollTales x = new TollTales();
        Checks.row(x, 0, 1, 2, 3, 4, 5);
        Checks.row(x, 1, 11, 12, 13, 14, 15);
        return x;
    }

    private static void rowIs(String label, TollTales x, int k, int... cells) {
        for (int i = 0; i < cells.length; i++) {
            due(label + ", cell " + i, x.cell(k, i, INTS), cells[i]);
        }
        due(label + ", as long as ahead", x.cell(k, cells.length, INTS), TollTales.LOST);
    }

    private static void copying() {
        TollTales x = rows();
        due("25 all", x.copy(0, 0, 1, 0, 5), 5);
        rowIs("25 all", x, 1, 1, 2, 3, 4, 5);
        x = rows();
        due("25 the last to the first", x.copy(0, 4, 1, 0, 1), 1);
        rowIs("25 the last to the first", x, 1, 5, 12, 13, 14, 15);
        x = rows();
        due("25 some to the end", x.copy(0, 0, 1, 3, 2), 2);
        rowIs("25 some to the end", x, 1, 11, 12, 13, 1, 2);
        rowIs("25 where they were they stay", x, 0, 1, 2, 3, 4, 5);
        x = rows();
        due("25 the same, on: as they were", x.copy(0, 0, 0, 1, 4), 4);
        rowIs("25 the same, on", x, 0, 1, 1, 2, 3, 4);
        x = rows();
        due("25 the same, back: as they were", x.copy(0, 1, 0, 0, 4), 4);
        rowIs("25 the same, back", x, 0, 2, 3, 4, 5, 5);
        x = rows();
        due("25 none", x.copy(0, 0, 1, 0, 0), 0);
        due("25 none at both ends", x.copy(0, 5, 1, 5, 0), 0);
        rowIs("25 none", x, 1, 11, 12, 13, 14, 15);
        due("25 one at the end", x.copy(0, 5, 1, 0, 1), -13);
        due("25 none of a row of none", noCells().copy(0, 0, 0, 0, 0), 0);
        due("25 one of a row of none", noCells().copy(0, 0, 0, 0, 1), -13);
        for (int sort = 0; sort < 3; sort++) {
            TollTales y = new TollTales();
            y.sheet(0, sort, 40);
            y.sheet(1, sort, 40);
            y.put(0, 39, -7);
            due("25 forty of sort " + sort, y.copy(0, 0, 1, 0, 40), 40);
            due("25 the last of forty", y.cell(1, 39, sort), -7);
        }
    }

    private static void tellings() {
        for (int span = 1; span <= 9; span++) {
            TollTales x = Checks.by("r1;k" + span + ";f" + span + ";h" + span);
            due("26 KEEPER: YEARS " + span, x.tell(0), span);
            due("26 FORGETFUL: and 100", x.tell(1), span + 100);
            due("26 HALVING: both", x.tell(2), span + 100 + span);
        }
        int[][] bodies = {{1}, {2, 1}, {3, 2, 1, 1}};
        for (int b = 0; b < 3; b++) {
            TollTales x = Checks.by("r1;k1;f1;h1");
            int trace = 0;
            x.tell(b);
            for (int body : bodies[b]) {
                trace = 31 * trace + body;
            }
            due("26 its bodies as they begin: " + b, x.trace(), trace);
        }
    }

    private static void wakings() {
        TollTales x = Checks.by("r1;k9;f8;k7;f6;k5;f4");
        for (int b = 0; b < 6; b++) {
            due("27 his place in his list: " + b, x.wake(b), b);
        }
        TollTales y = Checks.by("r1;h1;k1;f1;h9;h5;k5");
        for (int b = 0; b < 6; b++) {
            int before = y.trace();
            boolean own = y.ofBridge(b, 0) == 2;
            due("27 by his own or a lent body: " + b, y.wake(b), own ? 20 : b);
            due("27 its number: " + b, y.trace(), 31 * before + (own ? 5 : 4));
        }
    }

    private static void traces() {
        TollTales x = Checks.by("r1;h1;k1");
        int trace = 0;
        long unwrapped = 0;
        for (int round = 0; round < 12; round++) {
            x.wake(round % 2);
            trace = 31 * trace + 5 - round % 2;
            unwrapped = Math.min(31 * unwrapped + 5 - round % 2, 1L << 40);
            due("29 round " + round, x.trace(), trace);
        }
        CHECKS.holds("29 it has wrapped", unwrapped != trace && unwrapped > MAX);
    }

    private static void faults() {
        TollTales x = Checks.by("r1;k1");
        x.traveller(0);
        Checks.row(x, 1, 0);
        Runnable[] taken = {() -> x.river(0, BYTES, 0, 5), () -> x.least(0, 1, INTS, 0, 1), () -> x.plan(0, 1, INTS, 0, 1, 0),
            () -> x.ways(0, 1, INTS, 0, 1), () -> x.sheet(2, 0, 0), () -> x.put(1, 0, 0), () -> x.cell(1, 0, INTS),
            () -> x.copy(1, 0, 1, 0, 1), () -> x.as(0, 0)};
        for (int k = 0; k < taken.length; k++) {
            x.as(0, 1);
            due("30 a CAST ahead of " + k, x.fault(), 2);
            taken[k].run();
            due("30 it came to none: " + k, x.fault(), 0);
            x.traveller(0);
        }
        Runnable[] namingNone = {() -> x.ofBridge(0, 0), () -> x.price(0, 1), () -> x.years(1), () -> x.traveller(1), () -> x.knows(0),
            () -> x.buy(0, 0), () -> x.cross(0, 0, 0), () -> x.together(0, 1, 0, 0), () -> x.toldIn(0, 0), () -> x.undo(1),
            () -> x.village(0, 1), () -> x.lasts(0), () -> x.which(0, 0, 1, 1), () -> x.worth(0), () -> x.debt(0, 0),
            () -> x.lose(1), () -> x.tell(0), () -> x.wake(0), () -> x.trace(), () -> x.fault(), () -> x.many(0)};
        x.as(0, 1);
        for (int k = 0; k < namingNone.length; k++) {
            namingNone[k].run();
            due("30 of the latest call that names one: " + k, x.fault(), 2);
        }
    }

    private static void howMany() {
        TollTales x = walked("r8;f1;f1;f1;f1;f1;f1");
        for (int t = 1; t < 6; t++) {
            x.traveller(0);
        }
        for (int k = 0; k < 36; k++) {
            x.cross(0, k % 6, k / 6);
        }
        x.years(99);
        int[] most = {8, 6, 6, 99, 30};
        for (int what = 0; what < 5; what++) {
            due("31 the most of " + what, x.many(what), most[what]);
        }
    }

    private static void fiveHundredAndTwelveCalls() {
        TollTales x = walked("r1;f1");
        int calls = 8;
        while (calls < 510) {
            x.cross(0, 0, 0);
            x.undo(1);
            calls += 2;
        }
        due("the 511th call", x.cross(0, 0, 0), 1);
        due("the 512th call", x.undo(1), 0);
    }
}
