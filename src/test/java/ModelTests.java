import java.util.Random;

/** Long runs of calls, right and wrong ones, against the model; the seeds are fixed, so every run of the test is the same. */
public final class ModelTests {
    private static final int RUNS = 400, CALLS = 512;
    private static final Checks CHECKS = new Checks();

    private final Random random;
    private final int run;
    private final TollTales x = new TollTales();
    private final Model model = new Model();
    private int mostTales;

    private ModelTests(int run) {
        this.run = run;
        random = new Random(run);
        mostTales = run % 4 == 0 ? 8 : 5;
    }

    public static void main(String[] args) {
        for (int run = 0; run < RUNS; run++) {
            new ModelTests(run).go();
        }
        CHECKS.end();
    }

    private void go() {
        for (int call = 0; call < CALLS - 30; call++) {
            if (call % 150 == 5) {
                layText();
            }
            oneCall();
        }
    }

    private int below(int n) {
        return random.nextInt(n);
    }

    /** Mostly 0 .. n - 1, at times a little or far beside it. */
    private int about(int n) {
        int[] wild = {-1, n, n + 1, Integer.MIN_VALUE, 1 << 30, -7, 40, 41};
        return below(12) == 0 ? wild[below(wild.length)] : below(Math.max(1, n));
    }

    private int set() {
        return about(1 << (int) model.many(0));
    }

    private int bridge() {
        return about((int) model.many(1));
    }

    private int tale() {
        return about((int) model.many(0));
    }

    private int who() {
        return about((int) model.many(2));
    }

    private void due(String call, long got, long want) {
        CHECKS.due("run " + run + ": " + call, got, want);
    }

    private void layText() {
        StringBuilder text = new StringBuilder("r").append(1 + below(mostTales));
        for (int b = below(6); b >= 0; b--) {
            text.append(';').append("kfh".charAt(below(3))).append(1 + below(below(2) == 0 ? 3 : 9));
        }
        if (below(6) == 0) {
            text.setCharAt(below(text.length()), "r0123;kfhx".charAt(below(10)));
        }
        int sort = below(3);
        int start = below(3);
        due("sheet", x.sheet(3, sort, 30), model.sheet(3, sort, 30));
        for (int k = 0; k < text.length(); k++) {
            due("put", x.put(3, start + k, text.charAt(k)), model.put(3, start + k, text.charAt(k)));
        }
        int n = below(5) == 0 ? about(25) : text.length();
        due("river of " + text, x.river(3, sort, start, n), model.river(3, sort, start, n));
        for (int t = below(7); t > 0; t--) {
            int set = set();
            due("traveller", x.traveller(set), model.traveller(set));
        }
    }

    private void oneCall() {
        switch (below(12)) {
            case 0:
            case 1:
            case 2:
                crossing();
                break;
            case 3:
            case 4:
                journey();
                break;
            case 5:
            case 6:
                asking();
                break;
            case 7:
            case 8:
                changing();
                break;
            case 9:
                parts();
                break;
            default:
                sheets();
        }
        due("fault", x.fault(), model.fault());
        due("trace", x.trace(), model.trace());
    }

    private void crossing() {
        int t = who();
        int other = who();
        int b = bridge();
        int tale = tale();
        int k = about(4);
        switch (below(5)) {
            case 0:
                due("together", x.together(t, other, b, tale), model.together(t, other, b, tale));
                break;
            case 1:
                due("undo " + k, x.undo(k), model.undo(k));
                break;
            default:
                due("cross", x.cross(t, b, tale), model.cross(t, b, tale));
        }
        due("toldIn", x.toldIn(b, tale), model.toldIn(b, tale));
        due("knows", x.knows(other), model.knows(other));
        due("kept", x.many(4), model.many(4));
    }

    private void journey() {
        int sheet = below(9) == 0 ? about(4) : 0;
        int sort = below(9) == 0 ? about(3) : 2;
        int n = below(9) == 0 ? about(7) : 1 + below(mostTales == 8 ? 4 : 6);
        int i = about(3);
        int t = who();
        int q = about(n);
        if (below(2) == 0) {
            due("sheet", x.sheet(0, 2, 9), model.sheet(0, 2, 9));
            int few = 1 + below(6);
            for (int k = 0; k < 9; k++) {
                int b = below(20) == 0 ? bridge() : below(few) % Math.max(1, (int) model.many(1));
                due("put", x.put(0, k, b), model.put(0, k, b));
            }
        }
        due("least", x.least(t, sheet, sort, i, n), model.least(t, sheet, sort, i, n));
        due("plan", x.plan(t, sheet, sort, i, n, q), model.plan(t, sheet, sort, i, n, q));
        due("ways", x.ways(t, sheet, sort, i, n), model.ways(t, sheet, sort, i, n));
    }

    private void asking() {
        int b = bridge();
        int tale = tale();
        int what = about(2);
        int when = about((int) model.many(3) + 1);
        int asked = set();
        int heard = below(3) == 0 ? set() : asked & set();
        due("village", x.village(b, what), model.village(b, what));
        due("lasts", x.lasts(b), model.lasts(b));
        due("which", x.which(b, when, asked, heard), model.which(b, when, asked, heard));
        due("worth", x.worth(tale), model.worth(tale));
        due("debt", x.debt(b, tale), model.debt(b, tale));
    }

    private void changing() {
        int tale = tale();
        int v = below(2) == 0 ? below(3) : about(100);
        int set = set();
        int t = who();
        int n = about(below(9) == 0 ? 30 : 3);
        switch (below(5)) {
            case 0:
                due("buy", x.buy(t, tale), model.buy(t, tale));
                break;
            case 1:
                due("traveller", x.traveller(set), model.traveller(set));
                break;
            case 2:
                due("years", x.years(n), model.years(n));
                break;
            default:
                due("price", x.price(tale, v), model.price(tale, v));
        }
    }

    private void parts() {
        int b = bridge();
        int what = about(3);
        due("ofBridge", x.ofBridge(b, what), model.ofBridge(b, what));
        due("as", x.as(b, what), model.as(b, what));
        due("tell", x.tell(b), model.tell(b));
        due("wake", x.wake(b), model.wake(b));
        due("many", x.many(b), model.many(b));
    }

    private void sheets() {
        int k = about(4);
        int other = about(4);
        int sort = about(3);
        int i = about(10);
        int j = about(10);
        int n = about(6);
        int v = random.nextInt();
        switch (below(7)) {
            case 0:
                due("sheet", x.sheet(k, sort, 2 * i), model.sheet(k, sort, 2 * i));
                break;
            case 1:
                due("lose", x.lose(k), model.lose(k));
                break;
            case 2:
            case 3:
                due("copy", x.copy(k, i, other, j, n), model.copy(k, i, other, j, n));
                break;
            default:
                due("put", x.put(k, i, v), model.put(k, i, v));
        }
        due("cell", x.cell(other, j, sort), model.cell(other, j, sort));
    }
}
