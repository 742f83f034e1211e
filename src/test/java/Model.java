import java.util.ArrayList;
import java.util.List;
import java.util.regex.Matcher;
import java.util.regex.Pattern;

/** The document once more, by other means: the machine's own faults, a history of crossings, and trying out everything. */
final class Model {
    private static final Pattern TEXT = Pattern.compile("r[1-8](;[kfh][1-9]){1,6}");
    private static final long LOST = Long.MIN_VALUE;
    private static final int NONE = -9;

    private record Crossing(int bridge, int tale, int year) { }

    private final Object[] sheets = new Object[4];
    private final int[] prices = new int[8];
    private final List<Integer> known = new ArrayList<>();
    private final List<Crossing> history = new ArrayList<>();
    private String text = "";
    private int kept;
    private int year;
    private int trace;
    private int fault;
    private int leastCoin;
    private int[] leastRow;
    private long rows;

    int tales() {
        return text.isEmpty() ? 0 : text.charAt(1) - '0';
    }

    int bridges() {
        return text.isEmpty() ? 0 : (text.length() - 2) / 3;
    }

    private char letter(int b) {
        return text.charAt(3 + 3 * b);
    }

    private int span(int b) {
        return text.charAt(4 + 3 * b) - '0';
    }

    private boolean noBridge(int b) {
        return b < 0 || b >= bridges();
    }

    private boolean noTale(int tale) {
        return tale < 0 || tale >= tales();
    }

    private boolean noTraveller(int t) {
        return t < 0 || t >= known.size();
    }

    private boolean noSheet(int k) {
        return k < 0 || k > 3;
    }

    private boolean noSet(int set) {
        return (set >>> tales()) != 0;
    }

    private boolean heardAt(int b, int tale, int when) {
        for (Crossing c : history) {
            if (c.bridge == b && c.tale == tale && (letter(b) == 'k' || when < c.year + span(b))) {
                return true;
            }
        }
        return false;
    }

    private boolean heard(int b, int tale) {
        return heardAt(b, tale, year);
    }

    private int setHeard(int b) {
        int set = 0;
        for (int tale = 0; tale < tales(); tale++) {
            set += heard(b, tale) ? 1 << tale : 0;
        }
        return set;
    }

    /** Runs what the machine may fault at. */
    private interface Doing {
        long run();
    }

    private long faulting(Doing doing) {
        fault = 0;
        try {
            return doing.run();
        } catch (NullPointerException e) {
            fault = 1;
        } catch (ClassCastException | ArrayStoreException e) {
            fault = 2;
        } catch (IndexOutOfBoundsException e) {
            fault = 3;
        } catch (NegativeArraySizeException e) {
            fault = 4;
        }
        return -10 - fault;
    }

    private static int[] cells(Object sheet, int sort, int i, int n) {
        Object part;
        if (sort == 0) {
            byte[] row = (byte[]) sheet;
            byte[] some = row.length < 0 ? null : new byte[n];
            System.arraycopy(row, i, some, 0, n);
            part = some;
        } else if (sort == 1) {
            short[] row = (short[]) sheet;
            short[] some = row.length < 0 ? null : new short[n];
            System.arraycopy(row, i, some, 0, n);
            part = some;
        } else {
            int[] row = (int[]) sheet;
            int[] some = row.length < 0 ? null : new int[n];
            System.arraycopy(row, i, some, 0, n);
            part = some;
        }
        int[] all = new int[n];
        for (int k = 0; k < n; k++) {
            all[k] = java.lang.reflect.Array.getInt(part, k);
        }
        return all;
    }

    long river(int sheet, int sort, int i, int n) {
        return faulting(() -> {
            if (noSheet(sheet)) {
                return -1;
            }
            if (sort < 0 || sort > 2) {
                return -2;
            }
            StringBuilder codes = new StringBuilder();
            for (int code : cells(sheets[sheet], sort, i, n)) {
                codes.append(code > 0 && code < 128 ? (char) code : '?');
            }
            for (int ends = 1; ends <= n; ends++) {
                Matcher m = TEXT.matcher(codes.substring(0, ends));
                if (!m.matches() && !m.hitEnd()) {
                    return -100 - (ends - 1);
                }
            }
            if (!TEXT.matcher(codes).matches()) {
                return -100 - n;
            }
            text = codes.toString();
            year = 0;
            kept = 0;
            history.clear();
            known.clear();
            java.util.Arrays.fill(prices, 1);
            return bridges();
        });
    }

    long ofBridge(int b, int what) {
        if (noBridge(b)) {
            return -1;
        }
        return what == 0 ? "kfh".indexOf(letter(b)) : what == 1 ? span(b) : what == 2 ? (1 << tales()) - 1 - setHeard(b) : -2;
    }

    long price(int tale, int v) {
        if (noTale(tale)) {
            return -1;
        }
        if (v < 0 || v > 99) {
            return -2;
        }
        int was = prices[tale];
        prices[tale] = v;
        return was;
    }

    long years(int n) {
        if (n < 0 || (long) year + n > 99) {
            return -2;
        }
        return text.isEmpty() ? -3 : (year += n);
    }

    long traveller(int set) {
        if (noSet(set)) {
            return -2;
        }
        if (text.isEmpty()) {
            return -3;
        }
        if (known.size() == 6) {
            return -4;
        }
        known.add(set);
        return known.size() - 1;
    }

    long knows(int t) {
        return noTraveller(t) ? -1 : known.get(t);
    }

    private boolean has(int t, int tale) {
        return (known.get(t) & 1 << tale) != 0;
    }

    private void learn(int t, int tale) {
        known.set(t, known.get(t) | 1 << tale);
    }

    long buy(int t, int tale) {
        if (noTraveller(t) || noTale(tale)) {
            return -1;
        }
        int cost = has(t, tale) ? 0 : prices[tale];
        learn(t, tale);
        return cost;
    }

    private long tellNow(int b, int tale) {
        history.add(new Crossing(b, tale, year));
        kept = Math.min(30, kept + 1);
        return 1;
    }

    long cross(int t, int b, int tale) {
        if (noTraveller(t) || noBridge(b) || noTale(tale)) {
            return -1;
        }
        return !has(t, tale) || heard(b, tale) ? -3 : tellNow(b, tale);
    }

    long together(int t, int other, int b, int tale) {
        if (noTraveller(t) || noTraveller(other) || t == other || noBridge(b) || noTale(tale)) {
            return -1;
        }
        if (letter(b) != 'h' || !has(t, tale) && !has(other, tale) || heard(b, tale)) {
            return -3;
        }
        learn(t, tale);
        learn(other, tale);
        return tellNow(b, tale);
    }

    long toldIn(int b, int tale) {
        if (noBridge(b) || noTale(tale)) {
            return -1;
        }
        int last = NONE;
        for (Crossing c : history) {
            last = c.bridge == b && c.tale == tale ? c.year : last;
        }
        return last;
    }

    long undo(int k) {
        if (k < 0 || k > kept) {
            return -2;
        }
        for (int j = 0; j < k; j++) {
            history.remove(history.size() - 1);
        }
        return kept -= k;
    }

    /** Tries every row of tales. */
    private void tryRows(int[] route, int[] row, int place, int knows) {
        if (place == route.length) {
            int coin = 0;
            int told = 0;
            for (int tale : row) {
                told |= 1 << tale;
            }
            for (int tale = 0; tale < tales(); tale++) {
                coin += (told & ~knows & 1 << tale) != 0 ? prices[tale] : 0;
            }
            rows += (told & ~knows) == 0 ? 1 : 0;
            if (leastRow == null || coin < leastCoin) {
                leastCoin = coin;
                leastRow = row.clone();
            }
            return;
        }
        for (int tale = 0; tale < tales(); tale++) {
            boolean can = !heard(route[place], tale);
            for (int ahead = 0; ahead < place; ahead++) {
                can &= route[ahead] != route[place] || row[ahead] != tale;
            }
            if (can) {
                row[place] = tale;
                tryRows(route, row, place + 1, knows);
            }
        }
    }

    private long journey(int t, int sheet, int sort, int i, int n, int q) {
        return faulting(() -> {
            if (noTraveller(t) || noSheet(sheet)) {
                return -1;
            }
            if (sort < 0 || sort > 2) {
                return -2;
            }
            int[] route = cells(sheets[sheet], sort, i, n);
            if (n < 1 || n > 6) {
                return -2;
            }
            for (int b : route) {
                if (noBridge(b)) {
                    return -1;
                }
            }
            if (q < 0 || q >= n) {
                return -1;
            }
            leastCoin = NONE;
            leastRow = null;
            rows = 0;
            tryRows(route, new int[n], 0, known.get(t));
            return 0;
        });
    }

    long least(int t, int sheet, int sort, int i, int n) {
        long refused = journey(t, sheet, sort, i, n, 0);
        return refused != 0 ? refused : leastCoin;
    }

    long plan(int t, int sheet, int sort, int i, int n, int q) {
        long refused = journey(t, sheet, sort, i, n, q);
        return refused != 0 ? refused : leastRow == null ? NONE : leastRow[q];
    }

    long ways(int t, int sheet, int sort, int i, int n) {
        return journey(t, sheet, sort, i, n, 0) != 0 ? LOST : rows;
    }

    private int mostFrom(int t, int free, int lent) {
        if (t == known.size()) {
            return 0;
        }
        int most = mostFrom(t + 1, free, lent);
        for (int tale = 0; tale < tales(); tale++) {
            if ((free & (known.get(t) | lent) & 1 << tale) != 0) {
                most = Math.max(most, 1 + mostFrom(t + 1, free & ~(1 << tale), lent));
            }
        }
        return most;
    }

    long village(int b, int what) {
        if (noBridge(b)) {
            return -1;
        }
        if (what < 0 || what > 1) {
            return -2;
        }
        int fresh = (1 << tales()) - 1 - setHeard(b);
        if (what == 0) {
            return mostFrom(0, fresh, 0);
        }
        for (int size = 0; size <= tales(); size++) {
            for (int set = 0; set < 1 << tales(); set++) {
                if (Integer.bitCount(set) == size && mostFrom(0, fresh, set) == known.size()) {
                    return set;
                }
            }
        }
        return NONE;
    }

    private int lastsFrom(int b, int when, int most) {
        int best = 0;
        for (int tale = 0; tale < tales() && best < most; tale++) {
            if (!heardAt(b, tale, when)) {
                history.add(new Crossing(b, tale, when));
                best = Math.max(best, most == 1 ? 1 : 1 + lastsFrom(b, when + 1, most - 1));
                history.remove(history.size() - 1);
            }
        }
        return best;
    }

    long lasts(int b) {
        return noBridge(b) ? -1 : lastsFrom(b, year, 99);
    }

    long which(int b, int when, int asked, int want) {
        if (noBridge(b)) {
            return -1;
        }
        if (when < 0 || when > year || noSet(asked) || noSet(want) || (asked | want) != asked) {
            return -2;
        }
        int may = 0;
        for (int tale = 0; tale < tales(); tale++) {
            history.add(new Crossing(b, tale, when));
            may |= (setHeard(b) & asked) == want ? 1 << tale : 0;
            history.remove(history.size() - 1);
        }
        return may;
    }

    long worth(int tale) {
        if (noTale(tale)) {
            return -1;
        }
        int count = 0;
        for (int b = 0; b < bridges(); b++) {
            count += heard(b, tale) ? 0 : 1;
        }
        return count;
    }

    long debt(int b, int tale) {
        if (noBridge(b) || noTale(tale)) {
            return -1;
        }
        for (int when = year; when < 200; when++) {
            if (!heardAt(b, tale, when)) {
                return when;
            }
        }
        return NONE;
    }

    long sheet(int k, int sort, int n) {
        return faulting(() -> {
            if (noSheet(k)) {
                return -1;
            }
            if (sort < 0 || sort > 2 || n > 40) {
                return -2;
            }
            sheets[k] = sort == 0 ? new byte[n] : sort == 1 ? new short[n] : new int[n];
            return 1;
        });
    }

    long lose(int k) {
        if (noSheet(k)) {
            return -1;
        }
        boolean had = sheets[k] != null;
        sheets[k] = null;
        return had ? 1 : 0;
    }

    long put(int k, int i, int v) {
        return faulting(() -> {
            if (noSheet(k)) {
                return -1;
            }
            if (sheets[k] instanceof byte[] row) {
                row[i] = (byte) v;
            } else if (sheets[k] instanceof short[] row) {
                row[i] = (short) v;
            } else {
                ((int[]) sheets[k])[i] = v;
            }
            return 1;
        });
    }

    long cell(int k, int i, int sort) {
        long answer = faulting(() -> {
            if (noSheet(k) || sort < 0 || sort > 2) {
                return LOST;
            }
            return sort == 0 ? ((byte[]) sheets[k])[i] : sort == 1 ? ((short[]) sheets[k])[i] : ((int[]) sheets[k])[i];
        });
        return fault != 0 ? LOST : answer;
    }

    long copy(int k, int i, int other, int j, int n) {
        return faulting(() -> {
            if (noSheet(k) || noSheet(other)) {
                return -1;
            }
            System.arraycopy(sheets[k], i, sheets[other], j, n);
            return n;
        });
    }

    private void leave(int... bodies) {
        for (int body : bodies) {
            trace = 31 * trace + body;
        }
    }

    long tell(int b) {
        if (noBridge(b)) {
            return -1;
        }
        switch (letter(b)) {
            case 'k':
                leave(1);
                return span(b);
            case 'f':
                leave(2, 1);
                return span(b) + 100;
            default:
                leave(3, 2, 1, 1);
                return 2 * span(b) + 100;
        }
    }

    long wake(int b) {
        if (noBridge(b)) {
            return -1;
        }
        leave(letter(b) == 'h' ? 5 : 4);
        return letter(b) == 'h' ? 20 : b;
    }

    long as(int b, int kind) {
        return faulting(() -> {
            if (noBridge(b)) {
                return -1;
            }
            if (kind < 0 || kind > 2) {
                return -2;
            }
            if ("kfh".indexOf(letter(b)) < kind) {
                throw new ClassCastException();
            }
            return 1;
        });
    }

    long trace() {
        return trace;
    }

    long fault() {
        return fault;
    }

    long many(int what) {
        switch (what) {
            case 0:
                return tales();
            case 1:
                return bridges();
            case 2:
                return known.size();
            case 3:
                return year;
            case 4:
                return kept;
            default:
                return -2;
        }
    }
}
