import java.util.ArrayList;
import java.util.Arrays;
import java.util.HashMap;
import java.util.List;
import java.util.Map;
import java.util.Random;
import java.util.TreeMap;
import java.util.TreeSet;
import java.util.regex.Matcher;
import java.util.regex.Pattern;

/** Long runs of calls by a fixed seed, each answer beside that of a plain model, which takes the document word by word. */
public final class ModelTest {
    static final int BEYOND = -1000000001;
    static final int FULL = -1000000002;
    static final int KIND = -1000000003;
    static final int NONE = -1000000004;
    static final int STATE = -1000000005;
    static final int MISSING = -1000000006;
    static final int SIZE = -1000000007;

    /** What the document calls a finding, thrown so that the model's acts read like its sentences. */
    static final class Finding extends RuntimeException {
        static final long serialVersionUID = 1;
        final int which;

        Finding(int which) {
            super(null, null, false, false);
            this.which = which;
        }
    }

    record Way(int low, int high, boolean shut) { }

    record Round(int kind, List<Integer> row) { }

    record Walk(List<Integer> row, int total, int slack) { }

    static final class Land {
        List<Integer> errands = new ArrayList<>();
        TreeMap<Integer, Way> ways = new TreeMap<>();
        List<Round> rounds = new ArrayList<>();
        List<Walk> walks = new ArrayList<>();

        Land twin() {
            Land twin = new Land();
            twin.errands.addAll(errands);
            twin.ways.putAll(ways);
            for (Round r : rounds) {
                twin.rounds.add(new Round(r.kind, new ArrayList<>(r.row)));
            }
            for (Walk w : walks) {
                twin.walks.add(new Walk(new ArrayList<>(w.row), w.total, w.slack));
            }
            return twin;
        }

        int places() {
            return errands.size();
        }

        Integer miles(int from, int to) {
            Way w = ways.get(10 * from + to);
            return w == null || w.shut ? null : Integer.valueOf(w.low);
        }
    }

    static final class Model {
        Land land = new Land();
        Land kept = null;
        List<Integer> tape = new ArrayList<>();
        long[][] sheets = new long[4][];
        int[] bits = new int[4];
        int[] found = new int[7];

        static void ask(boolean holds, int otherwise) {
            if (!holds) {
                throw new Finding(otherwise);
            }
        }

        boolean is(long place) {
            return place >= 0 && place < land.places();
        }

        void two(int a, int b) {
            ask(is(a) && is(b) && a != b, BEYOND);
        }

        long call(String name, long[] a) {
            try {
                return act(name, a);
            } catch (Finding f) {
                found[BEYOND - f.which]++;
                return f.which;
            }
        }

        // The least sums of rows of just k WAYS from one PLACE on, with the first such row, k = 0 .. n.
        record Row(long sum, List<Integer> stops) { }

        static Row[][] rows(Land l, int from) {
            int n = l.places();
            Row[][] best = new Row[n + 1][n];
            best[0][from] = new Row(0, List.of(from));
            for (int k = 1; k <= n; k++) {
                for (int u = 0; u < n; u++) {
                    for (int v = 0; v < n && best[k - 1][u] != null; v++) {
                        Integer m = l.miles(u, v);
                        if (m != null) {
                            List<Integer> stops = new ArrayList<>(best[k - 1][u].stops);
                            stops.add(v);
                            Row row = new Row(best[k - 1][u].sum + m, stops);
                            if (best[k][v] == null || row.sum < best[k][v].sum || row.sum == best[k][v].sum && before(row.stops, best[k][v].stops)) {
                                best[k][v] = row;
                            }
                        }
                    }
                }
            }
            return best;
        }

        static boolean before(List<Integer> a, List<Integer> b) {
            for (int i = 0; i < a.size(); i++) {
                if (!a.get(i).equals(b.get(i))) {
                    return a.get(i) < b.get(i);
                }
            }
            return false;
        }

        static boolean loop(Land l) {
            for (int p = 0; p < l.places(); p++) {
                for (Row[] of : rows(l, p)) {
                    if (of[p] != null && of[p].sum < 0) {
                        return true;
                    }
                }
            }
            return false;
        }

        static Row row(Land l, int from, int to) {
            Row best = null;
            for (Row[] of : rows(l, from)) {
                if (of[to] != null && (best == null || of[to].sum < best.sum)) {
                    best = of[to];
                }
            }
            return best;
        }

        static Map<Integer, Long> allFar(Land l) {
            Map<Integer, Long> far = new HashMap<>();
            for (int a = 0; a < l.places(); a++) {
                for (int b = 0; b < l.places(); b++) {
                    Row r = row(l, a, b);
                    if (r != null) {
                        far.put(10 * a + b, r.sum);
                    }
                }
            }
            return far;
        }

        static long need(Long length) {
            ask(length != null, NONE);
            return length;
        }

        long loops() {
            int n = land.places();
            long none = Long.MAX_VALUE;
            long[][] d = new long[n][n];
            for (int a = 0; a < n; a++) {
                for (int b = 0; b < n; b++) {
                    d[a][b] = a == b ? 0 : land.miles(a, b) == null ? none : land.miles(a, b);
                }
            }
            for (int twice = 0; twice < 18; twice++) {
                long[][] e = new long[n][n];
                for (int a = 0; a < n; a++) {
                    for (int b = 0; b < n; b++) {
                        e[a][b] = none;
                        for (int c = 0; c < n; c++) {
                            if (d[a][c] != none && d[c][b] != none) {
                                e[a][b] = Math.min(e[a][b], d[a][c] + d[c][b]);
                            }
                        }
                    }
                }
                d = e;
            }
            long set = 0;
            for (int a = 0; a < n; a++) {
                set |= d[a][a] < 0 ? 1L << a : 0;
            }
            return set;
        }

        static void orders(List<Integer> begun, List<Integer> left, List<List<Integer>> all) {
            if (left.isEmpty()) {
                all.add(begun);
            }
            for (int i = 0; i < left.size(); i++) {
                List<Integer> b = new ArrayList<>(begun);
                List<Integer> l = new ArrayList<>(left);
                b.add(l.remove(i));
                orders(b, l, all);
            }
        }

        long sum(Round r) {
            Map<Integer, Long> far = allFar(land);
            List<Integer> row = new ArrayList<>(r.row);
            int n = row.size();
            long all = 0;
            Long best = null;
            switch (r.kind) {
                case 0:
                    for (int i = 0; i < n; i++) {
                        all += need(far.get(10 * row.get(i) + row.get((i + 1) % n)));
                    }
                    return all;
                case 4:
                    java.util.Collections.reverse(row);
                    // as TOLD
                case 1:
                    for (int i = 0; i < n; i++) {
                        int a = row.get(i);
                        int b = row.get((i + 1) % n);
                        if (a != b) {
                            ask(land.miles(a, b) != null, NONE);
                            all += land.miles(a, b);
                        }
                    }
                    return all;
                case 2:
                case 6:
                    List<List<Integer>> rows = new ArrayList<>();
                    orders(List.of(row.get(0)), row.subList(1, n), rows);
                    for (List<Integer> order : rows) {
                        Long s = 0L;
                        for (int i = 0; i < (r.kind == 2 ? n : n - 1) && s != null; i++) {
                            Long f = far.get(10 * order.get(i) + order.get((i + 1) % n));
                            s = f == null ? null : Long.valueOf(s + f);
                        }
                        if (s != null && (best == null || s < best)) {
                            best = s;
                        }
                    }
                    return need(best);
                case 3:
                    for (int p = 0; p < land.places(); p++) {
                        Long x = far.get(10 * row.get(0) + p);
                        Long y = far.get(10 * row.get(n - 1) + p);
                        if (x != null && y != null && (best == null || Math.max(x, y) < best)) {
                            best = Math.max(x, y);
                        }
                    }
                    return need(best);
                default:
                    for (int i = 0; i + 1 < n; i++) {
                        all += need(far.get(10 * row.get(i) + row.get(i + 1)));
                        all += need(far.get(10 * row.get(i + 1) + row.get(i)));
                    }
                    return all;
            }
        }

        static Long trip(Land l, Map<Integer, Long> far, int home) {
            long all = 0;
            for (int p = 0; p < l.places(); p++) {
                if (l.errands.get(p) > 0) {
                    Long there = far.get(10 * home + p);
                    Long back = far.get(10 * p + home);
                    if (there == null || back == null) {
                        return null;
                    }
                    all += l.errands.get(p) * (there + back);
                }
            }
            return all;
        }

        /** {PLACE, TRIP} of LIVE, or null. */
        static long[] live(Land l) {
            Map<Integer, Long> far = allFar(l);
            long[] best = null;
            for (int p = 0; p < l.places(); p++) {
                Long t = trip(l, far, p);
                if (t != null && (best == null || t < best[1])) {
                    best = new long[] {p, t};
                }
            }
            return best;
        }

        long meet(int one, int other, int what) {
            Map<Integer, Long> far = allFar(land);
            Long best = null;
            long where = -1;
            for (int p = 0; p < land.places(); p++) {
                Long a = far.get(10 * one + p);
                Long b = far.get(10 * other + p);
                Long c = far.get(10 * p + one);
                Long d = far.get(10 * p + other);
                if (a == null || b == null || what == 2 && (c == null || d == null)) {
                    continue;
                }
                long cost = what == 0 ? a + b : what == 1 ? Math.max(a, b) : a + b + c + d;
                if (best == null || cost < best) {
                    best = cost;
                    where = p;
                }
            }
            ask(best != null, NONE);
            return where;
        }

        /** All HEIGHTS of each PLACE; it stops as soon as one has two. */
        List<TreeSet<Integer>> heights() {
            int n = land.places();
            List<TreeSet<Integer>> all = new ArrayList<>();
            for (int p = 0; p < n; p++) {
                all.add(new TreeSet<>());
            }
            for (int p = 0; p < n; p++) {
                if (all.get(p).isEmpty()) {
                    all.get(p).add(0);
                    List<int[]> open = new ArrayList<>();
                    open.add(new int[] {p, 0});
                    while (!open.isEmpty()) {
                        int[] at = open.remove(open.size() - 1);
                        for (int q = 0; q < n; q++) {
                            if (land.miles(at[0], q) != null && land.miles(q, at[0]) != null) {
                                int h = at[1] + land.miles(at[0], q) - land.miles(q, at[0]);
                                if (all.get(q).add(h)) {
                                    open.add(new int[] {q, h});
                                }
                                if (all.get(q).size() > 1) {
                                    return null;
                                }
                            }
                        }
                    }
                }
            }
            return all;
        }

        /** {how many ROUNDS changed something, set of WALKS that LIED}. */
        static int[] learn(Land l) {
            int changes = 0;
            int liars = 0;
            for (int round = 1; round <= 50; round++) {
                TreeMap<Integer, Way> ahead = new TreeMap<>(l.ways);
                for (int w = 0; w < l.walks.size(); w++) {
                    if (walkLies(l, l.walks.get(w))) {
                        liars |= 1 << w;
                    }
                }
                if (ahead.equals(l.ways)) {
                    break;
                }
                changes++;
            }
            return new int[] {changes, liars};
        }

        static boolean walkLies(Land l, Walk walk) {
            List<Integer> keys = new ArrayList<>();
            for (int i = 0; i + 1 < walk.row.size(); i++) {
                keys.add(10 * walk.row.get(i) + walk.row.get(i + 1));
            }
            for (int key : keys) {
                if (!l.ways.containsKey(key)) {
                    return true;
                }
            }
            for (int i = 0; i < keys.size(); i++) {
                int key = keys.get(i);
                if (keys.indexOf(key) != keys.lastIndexOf(key)) {
                    continue;
                }
                int top = walk.total + walk.slack;
                int bottom = walk.total - walk.slack;
                for (int j = 0; j < keys.size(); j++) {
                    if (j != i) {
                        top -= l.ways.get(keys.get(j)).low;
                        bottom -= l.ways.get(keys.get(j)).high;
                    }
                }
                Way was = l.ways.get(key);
                int high = top < was.high ? top : was.high;
                int low = bottom > was.low ? bottom : was.low;
                if (low > high || low < -99 || low > 999 || high < -99 || high > 999) {
                    return true;
                }
                l.ways.put(key, new Way(low, high, was.shut));
            }
            return false;
        }

        static Land mended(Land l, int a, int b) {
            Land then = l.twin();
            int less = Math.min(l.miles(a, b), l.miles(b, a));
            then.ways.put(10 * a + b, new Way(less, less, false));
            then.ways.put(10 * b + a, new Way(less, less, false));
            return then;
        }

        boolean both(int a, int b) {
            return land.miles(a, b) != null && land.miles(b, a) != null;
        }

        long mend() {
            ask(!loop(land), STATE);
            long[] now = live(land);
            Long best = null;
            long which = -1;
            for (int a = 0; a < land.places(); a++) {
                for (int b = a + 1; b < land.places(); b++) {
                    if (both(a, b) && now != null && !loop(mended(land, a, b))) {
                        long saved = now[1] - live(mended(land, a, b))[1];
                        if (best == null || saved > best) {
                            best = saved;
                            which = 10 * a + b;
                        }
                    }
                }
            }
            ask(best != null, NONE);
            return which;
        }

        int nearest(int p) {
            Integer best = null;
            for (int q = 0; q < land.places(); q++) {
                if (land.miles(p, q) != null && (best == null || land.miles(p, q) < land.miles(p, best))) {
                    best = q;
                }
            }
            return best == null ? -1 : best;
        }

        long hollow() {
            long set = 0;
            for (int p = 0; p < land.places(); p++) {
                int at = nearest(p);
                for (int i = 0; i < 20 && at >= 0 && at != p; i++) {
                    at = nearest(at);
                }
                set |= at == p ? 1L << p : 0;
            }
            return set;
        }

        // ---- the text

        record Token(int at, String text) { }

        List<Token> tokens = new ArrayList<>();
        int t;
        Land told;

        static final class Fault extends RuntimeException {
            static final long serialVersionUID = 1;

            Fault() {
                super(null, null, false, false);
            }
        }

        String look() {
            return tokens.get(t).text;
        }

        boolean takes(String word) {
            if (look().equals(word)) {
                t++;
                return true;
            }
            return false;
        }

        int number(int least, int most) {
            if (!look().matches("[0-9]+") || look().replaceFirst("^0+", "").length() > 4) {
                throw new Fault();
            }
            int v = Integer.parseInt(look());
            if (v < least || v > most) {
                throw new Fault();
            }
            t++;
            return v;
        }

        int mile(int least, int most) {
            return takes("-") ? -number(-most, -least) : number(least, most);
        }

        int placeNumber(int unlike) {
            int was = t;
            int v = number(0, told.places() - 1);
            if (v == unlike) {
                t = was;
                throw new Fault();
            }
            return v;
        }

        void item() {
            if (look().equals("place") && told.places() < 10) {
                t++;
                told.errands.add(0);
                if (takes("errands")) {
                    told.errands.set(told.places() - 1, number(0, 99));
                }
            } else if (takes("way")) {
                int a = placeNumber(-1);
                int b = placeNumber(a);
                int low = mile(-99, 999);
                int high = takes("to") ? mile(low, 999) : low;
                told.ways.put(10 * a + b, new Way(low, high, false));
                if (takes("back")) {
                    int m = mile(-99, 999);
                    told.ways.put(10 * b + a, new Way(m, m, false));
                }
            } else if (look().equals("walk") && told.walks.size() < 8) {
                t++;
                List<Integer> row = new ArrayList<>();
                row.add(placeNumber(-1));
                row.add(placeNumber(row.get(0)));
                while (!look().equals("all")) {
                    if (row.size() == 6) {
                        throw new Fault();
                    }
                    row.add(placeNumber(row.get(row.size() - 1)));
                }
                t++;
                int total = mile(-9999, 9999);
                int slack = takes("slack") ? number(0, 99) : 0;
                told.walks.add(new Walk(row, total, slack));
            } else {
                throw new Fault();
            }
        }

        long land() {
            StringBuilder s = new StringBuilder();
            for (int b : tape) {
                s.append((char) b);
            }
            tokens.clear();
            Matcher m = Pattern.compile("[a-z]+|[0-9]+|[^ ]", Pattern.DOTALL).matcher(s);
            while (m.find()) {
                tokens.add(new Token(m.start(), m.group()));
            }
            tokens.add(new Token(s.length(), ""));
            tape.clear();
            t = 0;
            told = land.twin();
            int items = 0;
            try {
                do {
                    item();
                    items++;
                } while (takes(";"));
                if (!look().isEmpty()) {
                    throw new Fault();
                }
            } catch (Fault f) {
                return -1 - tokens.get(t).at;
            }
            land = told;
            return items;
        }

        // ---- sheets

        void sheetIs(long s) {
            ask(s >= 0 && s < 4, BEYOND);
        }

        long low(int b, long v) {
            return b == 64 ? v : v << (64 - b) >> (64 - b);
        }

        long read(long[] row) {
            if (row.length < 2) {
                return 1;
            }
            long sum = 0;
            for (int i = 0; i < row.length; i++) {
                if (!is(row[i]) || i > 0 && land.miles((int) row[i - 1], (int) row[i]) == null) {
                    return 1 + i;
                }
                sum += i == 0 ? 0 : land.miles((int) row[i - 1], (int) row[i]);
            }
            return sum == row(land, (int) row[0], (int) row[row.length - 1]).sum ? 0 : 1 + row.length;
        }

        long act(String name, long[] args) {
            int a = args.length > 0 ? (int) args[0] : 0;
            int b = args.length > 1 ? (int) args[1] : 0;
            int c = args.length > 2 ? (int) args[2] : 0;
            int d = args.length > 3 ? (int) args[3] : 0;
            int e = args.length > 4 ? (int) args[4] : 0;
            switch (name) {
                case "place":
                    ask(land.places() < 10, FULL);
                    land.errands.add(0);
                    return land.places() - 1;
                case "errands":
                    ask(is(a) && b >= 0 && b <= 99, BEYOND);
                    return land.errands.set(a, b);
                case "way":
                    two(a, b);
                    ask(c >= -99 && c <= d && d <= 999, BEYOND);
                    return land.ways.put(10 * a + b, new Way(c, d, false)) == null ? 1 : 0;
                case "wayOf": {
                    two(a, b);
                    ask(c >= 0 && c <= 2, BEYOND);
                    Way w = land.ways.get(10 * a + b);
                    ask(w != null, NONE);
                    return c == 0 ? w.low : c == 1 ? w.high : w.shut ? 1 : 0;
                }
                case "shut": {
                    two(a, b);
                    Way w = land.ways.get(10 * a + b);
                    ask(w != null, NONE);
                    land.ways.put(10 * a + b, new Way(w.low, w.high, c == 1));
                    return w.shut == (c == 1) ? 0 : 1;
                }
                case "far": {
                    ask(is(a) && is(b), BEYOND);
                    ask(!loop(land), STATE);
                    Row r = row(land, a, b);
                    ask(r != null, NONE);
                    return r.sum;
                }
                case "by": {
                    ask(is(a) && is(b) && c >= -1 && c <= 9, BEYOND);
                    ask(!loop(land), STATE);
                    Row r = row(land, a, b);
                    ask(r != null && c < r.stops.size(), NONE);
                    return c == -1 ? r.stops.size() - 1 : r.stops.get(c);
                }
                case "loops":
                    return loops();
                case "longer": {
                    ask(is(a) && is(b), BEYOND);
                    ask(!loop(land), STATE);
                    Row there = row(land, a, b);
                    Row back = row(land, b, a);
                    ask(there != null && back != null, NONE);
                    return there.sum - back.sum;
                }
                case "round":
                    ask(a >= 0 && a <= 6 && is(b), BEYOND);
                    ask(land.rounds.size() < 8, FULL);
                    land.rounds.add(new Round(a, new ArrayList<>(List.of(b))));
                    return land.rounds.size() - 1;
                case "over":
                    ask(a >= 0 && a < land.rounds.size() && is(b), BEYOND);
                    ask(land.rounds.get(a).row.size() < 6, FULL);
                    land.rounds.get(a).row.add(b);
                    return land.rounds.get(a).row.size();
                case "sum":
                    ask(a >= 0 && a < land.rounds.size(), BEYOND);
                    ask(!loop(land), STATE);
                    return sum(land.rounds.get(a));
                case "roundOf": {
                    ask(a >= 0 && a < land.rounds.size() && b >= -2 && b < 6, BEYOND);
                    Round r = land.rounds.get(a);
                    ask(b < r.row.size(), NONE);
                    return b == -1 ? r.kind : b == -2 ? r.row.size() : r.row.get(b);
                }
                case "as": {
                    ask(a >= 0 && a < land.rounds.size() && b >= 0 && b <= 6, BEYOND);
                    Round r = land.rounds.get(a);
                    ask(b == 0 || r.kind == b || b == 1 && r.kind == 4 || b == 2 && r.kind == 6, KIND);
                    return r.row.size();
                }
                case "live": {
                    ask(!loop(land), STATE);
                    long[] best = live(land);
                    ask(best != null, NONE);
                    return best[0];
                }
                case "trip":
                    ask(is(a), BEYOND);
                    ask(!loop(land), STATE);
                    return need(trip(land, allFar(land), a));
                case "meet":
                    ask(is(a) && is(b) && c >= 0 && c <= 2, BEYOND);
                    ask(!loop(land), STATE);
                    return meet(a, b, c);
                case "fit":
                    return heights() == null ? 0 : 1;
                case "height":
                    ask(is(a), BEYOND);
                    ask(heights() != null, STATE);
                    return heights().get(a).first();
                case "paper":
                    two(a, b);
                    ask(both(a, b), NONE);
                    return (land.miles(a, b) + land.miles(b, a)) / 2;
                case "worst": {
                    long most = -1;
                    for (int p = 0; p < land.places(); p++) {
                        for (int q = 0; q < land.places(); q++) {
                            if (both(p, q)) {
                                most = Math.max(most, Math.abs(land.miles(p, q) - (land.miles(p, q) + land.miles(q, p)) / 2));
                            }
                        }
                    }
                    ask(most >= 0, NONE);
                    return most;
                }
                case "walk":
                    two(a, b);
                    ask(Math.abs((long) c) <= 9999 && d >= 0 && d <= 99, BEYOND);
                    ask(land.walks.size() < 8, FULL);
                    land.walks.add(new Walk(new ArrayList<>(List.of(a, b)), c, d));
                    return land.walks.size() - 1;
                case "on": {
                    ask(a >= 0 && a < land.walks.size() && is(b), BEYOND);
                    List<Integer> row = land.walks.get(a).row;
                    ask(row.get(row.size() - 1) != b, BEYOND);
                    ask(row.size() < 6, FULL);
                    row.add(b);
                    return row.size();
                }
                case "learn":
                    return learn(land)[0];
                case "lies":
                    return learn(land.twin())[1];
                case "known": {
                    ask(a >= 0 && a <= 2, BEYOND);
                    long all = 0;
                    for (Way w : land.ways.values()) {
                        all += a == 0 ? 1 : a == 1 ? (w.low < w.high ? 1 : 0) : w.high - w.low;
                    }
                    return all;
                }
                case "ask": {
                    int most = 0;
                    int which = -1;
                    for (Map.Entry<Integer, Way> w : land.ways.entrySet()) {
                        if (!w.getValue().shut && w.getValue().high - w.getValue().low > most) {
                            most = w.getValue().high - w.getValue().low;
                            which = w.getKey();
                        }
                    }
                    ask(which >= 0, NONE);
                    return which;
                }
                case "saves":
                    two(a, b);
                    ask(both(a, b), NONE);
                    ask(!loop(land) && !loop(mended(land, a, b)), STATE);
                    ask(live(land) != null, NONE);
                    return live(land)[1] - live(mended(land, a, b))[1];
                case "mend":
                    return mend();
                case "goes": {
                    ask(is(a) && b >= 0 && b <= 1000, BEYOND);
                    int at = a;
                    for (int i = 0; i < b; i++) {
                        at = nearest(at);
                        ask(at >= 0, NONE);
                    }
                    return at;
                }
                case "hollow":
                    return hollow();
                case "feed":
                    ask(b >= 1 && b <= 4, BEYOND);
                    ask(tape.size() + b <= 120, FULL);
                    for (int i = b - 1; i >= 0; i--) {
                        tape.add((int) ((args[0] >> (8 * i)) & 255));
                    }
                    return tape.size();
                case "wipe": {
                    int had = tape.size();
                    tape.clear();
                    return had;
                }
                case "land":
                    return land();
                case "sheet":
                    sheetIs(a);
                    ask(b == 0 || b == 8 || b == 16 || b == 64, BEYOND);
                    ask(c >= 0, SIZE);
                    ask(c <= 40, BEYOND);
                    sheets[a] = b == 0 ? null : new long[c];
                    bits[a] = b;
                    return b == 0 ? 0 : c;
                case "write": {
                    sheetIs(a);
                    ask(sheets[a] != null, MISSING);
                    ask(b >= 0 && b < sheets[a].length, BEYOND);
                    long was = sheets[a][b];
                    sheets[a][b] = low(bits[a], args[2]);
                    return was;
                }
                case "copy": {
                    sheetIs(a);
                    sheetIs(c);
                    ask(sheets[a] != null && sheets[c] != null, MISSING);
                    ask(bits[a] == bits[c], KIND);
                    ask(b >= 0 && d >= 0 && e >= 0, BEYOND);
                    ask((long) b + e <= sheets[a].length && (long) d + e <= sheets[c].length, BEYOND);
                    long[] were = Arrays.copyOfRange(sheets[a], b, b + e);
                    for (int i = 0; i < e; i++) {
                        sheets[c][d + i] = were[i];
                    }
                    return e;
                }
                case "lays": {
                    sheetIs(a);
                    ask(sheets[a] != null, MISSING);
                    ask(is(b), BEYOND);
                    int came = 0;
                    for (int i = 0; i < sheets[a].length; i++) {
                        long v = sheets[a][i];
                        if (is(i) && i != b && v >= -99 && v <= 999) {
                            land.ways.put(10 * b + i, new Way((int) v, (int) v, false));
                            came++;
                        }
                    }
                    return came;
                }
                case "read":
                    sheetIs(a);
                    ask(sheets[a] != null, MISSING);
                    ask(!loop(land), STATE);
                    return read(sheets[a]);
                case "image":
                    kept = land.twin();
                    return 1;
                case "undo":
                    ask(kept != null, NONE);
                    land = kept.twin();
                    return land.places();
                case "tear": {
                    int was = kept == null ? 0 : 1;
                    kept = null;
                    return was;
                }
                case "count":
                    ask(a >= 0 && a <= 5, BEYOND);
                    return a == 0 ? land.places() : a == 1 ? land.ways.size() : a == 2 ? land.rounds.size()
                        : a == 3 ? land.walks.size() : a == 4 ? tape.size()
                        : land.errands.stream().mapToInt(Integer::intValue).sum();
                case "status":
                    ask(a >= -1 && a <= 6, BEYOND);
                    return a == -1 ? Arrays.stream(found).sum() : found[a];
                default:
                    throw new IllegalStateException(name);
            }
        }
    }

    static long callReal(LongerBack x, String name, long[] args) {
        int a = args.length > 0 ? (int) args[0] : 0;
        int b = args.length > 1 ? (int) args[1] : 0;
        int c = args.length > 2 ? (int) args[2] : 0;
        int d = args.length > 3 ? (int) args[3] : 0;
        int e = args.length > 4 ? (int) args[4] : 0;
        switch (name) {
            case "place": return x.place();
            case "errands": return x.errands(a, b);
            case "way": return x.way(a, b, c, d);
            case "wayOf": return x.wayOf(a, b, c);
            case "shut": return x.shut(a, b, c == 1);
            case "far": return x.far(a, b);
            case "by": return x.by(a, b, c);
            case "loops": return x.loops();
            case "longer": return x.longer(a, b);
            case "round": return x.round(a, b);
            case "over": return x.over(a, b);
            case "sum": return x.sum(a);
            case "roundOf": return x.roundOf(a, b);
            case "as": return x.as(a, b);
            case "live": return x.live();
            case "trip": return x.trip(a);
            case "meet": return x.meet(a, b, c);
            case "fit": return x.fit();
            case "height": return x.height(a);
            case "paper": return x.paper(a, b);
            case "worst": return x.worst();
            case "walk": return x.walk(a, b, c, d);
            case "on": return x.on(a, b);
            case "learn": return x.learn();
            case "lies": return x.lies();
            case "known": return x.known(a);
            case "ask": return x.ask();
            case "saves": return x.saves(a, b);
            case "mend": return x.mend();
            case "goes": return x.goes(a, b);
            case "hollow": return x.hollow();
            case "feed": return x.feed(a, b);
            case "wipe": return x.wipe();
            case "land": return x.land();
            case "sheet": return x.sheet(a, b, c);
            case "write": return x.write(a, b, args[2]);
            case "copy": return x.copy(a, b, c, d, e);
            case "lays": return x.lays(a, b);
            case "read": return x.read(a);
            case "image": return x.image();
            case "undo": return x.undo();
            case "tear": return x.tear();
            case "count": return x.count(a);
            case "status": return x.status(a);
            default: throw new IllegalStateException(name);
        }
    }

    /** One run: which calls are likely, how long WAYS are, how many PLACES one speaks of. */
    static final class Run {
        final Random random;
        final int places;
        final int leastMiles;
        final int mostMiles;
        final int oddity;
        final List<String> told = new ArrayList<>();
        final LongerBack real = new LongerBack();
        final Model model = new Model();
        boolean right = true;
        /** By PLACE; null in a land without hills. */
        int[] hills = null;

        Run(long seed) {
            random = new Random(seed);
            places = 1 + random.nextInt(10);
            int style = random.nextInt(5);
            leastMiles = new int[] {-99, -2, 0, -5, 1}[style];
            mostMiles = new int[] {999, 6, 3, 60, 40}[style];
            oddity = random.nextInt(3) == 0 ? 6 : 60;
        }

        boolean odd() {
            return random.nextInt(oddity) == 0;
        }

        int wild() {
            int[] some = {-1, -2, -3, 10, 11, 7, 8, 6, 1000, 1001, -100, 41, 40, Integer.MIN_VALUE, Integer.MAX_VALUE, -10000, 10000, 100};
            return some[random.nextInt(some.length)];
        }

        int place() {
            return odd() ? wild() : random.nextInt(places);
        }

        int within(int least, int most) {
            return odd() ? wild() : least + random.nextInt(most - least + 1);
        }

        int miles() {
            return within(leastMiles, mostMiles);
        }

        void call(String name, long... args) {
            if (!right) {
                return;
            }
            long want = model.call(name, args);
            long got = callReal(real, name, args);
            told.add(name + Arrays.toString(args) + " -> " + got);
            if (got != want) {
                right = false;
                System.out.println("last calls:");
                for (String line : told.subList(Math.max(0, told.size() - 40), told.size())) {
                    System.out.println("  " + line);
                }
                System.out.println("  due is " + want);
            }
        }

        void pourText() {
            StringBuilder s = new StringBuilder();
            int items = 1 + random.nextInt(5);
            for (int i = 0; i < items; i++) {
                s.append(i == 0 ? "" : random.nextBoolean() ? " ; " : ";");
                s.append(item());
            }
            if (random.nextInt(3) == 0) {
                int at = random.nextInt(s.length());
                String odd = " ;-09azA@place\u0000\u00e9\t";
                char c = odd.charAt(random.nextInt(odd.length()));
                if (random.nextBoolean()) {
                    s.setCharAt(at, c);
                } else if (random.nextBoolean()) {
                    s.insert(at, c);
                } else if (random.nextBoolean()) {
                    s.deleteCharAt(at);
                } else {
                    s.setLength(at);
                }
            }
            for (int at = 0; at < s.length();) {
                int n = Math.min(1 + random.nextInt(4), s.length() - at);
                int bytes = random.nextInt();
                for (int i = 0; i < n; i++) {
                    bytes = bytes << 8 | s.charAt(at++) & 255;
                }
                call("feed", bytes, n);
            }
            call("count", 4);
            call("land");
            call("count", 0);
            call("count", 1);
            call("count", 3);
        }

        String textMile(int least, int most) {
            int m = odd() ? random.nextInt(12000) - 1000 : least + random.nextInt(most - least + 1);
            return m < 0 ? (random.nextBoolean() ? "-" : "- ") + -m : (random.nextInt(9) == 0 ? "0" : "") + m;
        }

        int textPlace() {
            return Math.abs(place() % 100000);
        }

        String item() {
            switch (random.nextInt(4)) {
                case 0:
                    return random.nextBoolean() ? "place" : "place errands " + (odd() ? 100 : random.nextInt(100));
                case 1: {
                    StringBuilder s = new StringBuilder("walk");
                    int n = odd() ? random.nextInt(9) : 2 + random.nextInt(5);
                    int last = -1;
                    for (int i = 0; i < n; i++) {
                        int p = textPlace();
                        if (p == last) {
                            p = (p + 1) % places;
                        }
                        s.append(' ').append(p);
                        last = p;
                    }
                    s.append(" all ").append(textMile(-50, 900));
                    return s + (random.nextBoolean() ? "" : " slack " + (odd() ? 100 : random.nextInt(100)));
                }
                default: {
                    int a = textPlace();
                    int b = odd() ? a : (a + 1 + random.nextInt(9)) % places;
                    String s = "way " + a + " " + b + " " + textMile(leastMiles, mostMiles);
                    s += random.nextInt(3) == 0 ? " to " + textMile(mostMiles, 999) : "";
                    return s + (random.nextBoolean() ? "" : " back " + textMile(leastMiles, mostMiles));
                }
            }
        }

        /** Up is far and down is below nought, but round it comes to no less than nothing; often to just that. */
        int overHills(int from, int to) {
            return hills[to] - hills[from] + (random.nextInt(3) == 0 ? random.nextInt(30) : 0);
        }

        void hillWays() {
            hills = new int[places];
            for (int p = 0; p < places; p++) {
                hills[p] = random.nextInt(random.nextBoolean() ? 50 : 4);
            }
            for (int i = random.nextInt(2 * places); i > 0; i--) {
                int a = random.nextInt(places);
                int b = random.nextInt(places);
                int more = random.nextInt(12);
                call("way", a, b, hills[b] - hills[a] + more, 999);
                call("way", b, a, hills[a] - hills[b] + more, 999);
            }
            for (int p = 0; p < places; p++) {
                call("errands", p, random.nextInt(4) == 0 ? random.nextInt(100) : random.nextInt(3));
            }
        }

        void hillRow(int round) {
            call("round", random.nextInt(7), random.nextInt(places));
            for (int i = random.nextInt(6); i > 0; i--) {
                call("over", round, random.nextInt(places));
            }
            call("sum", round);
        }

        /** WALKS that tell the truth about MILES which nobody knows, so that one learns by one from the other. */
        void survey() {
            int[] truth = new int[100];
            for (int a = 0; a < places; a++) {
                for (int b = 0; b < places; b++) {
                    int miles = random.nextInt(300);
                    truth[10 * a + b] = miles;
                    int low = Math.max(-99, miles - random.nextInt(200));
                    call("way", a, b, low, miles + random.nextInt(200));
                    if (random.nextInt(5) == 0) {
                        call("shut", a, b, 1);
                    }
                }
            }
            int few = Math.min(places, 2 + random.nextInt(3));
            for (int w = 0; w < 8; w++) {
                int slack = random.nextInt(3) == 0 ? random.nextInt(100) : random.nextInt(4);
                int[] row = new int[2 + random.nextInt(5)];
                int total = random.nextInt(2 * slack + 1) - slack + (odd() ? random.nextInt(600) - 300 : 0);
                for (int i = 0; i < row.length; i++) {
                    row[i] = random.nextInt(few);
                    if (i > 0 && row[i] == row[i - 1]) {
                        row[i] = (row[i] + 1) % few;
                    }
                    total += i == 0 ? 0 : truth[10 * row[i - 1] + row[i]];
                }
                call("walk", row[0], row[1], total, slack);
                for (int i = 2; i < row.length; i++) {
                    call("on", w, row[i]);
                }
            }
            call("lies");
            call("known", 2);
            call("ask");
            call("learn");
            call("known", 2);
            for (int i = 0; i < 20; i++) {
                call("wayOf", random.nextInt(places), random.nextInt(places), random.nextInt(3));
            }
        }

        void wayCall() {
            if (hills != null && !odd()) {
                int a = random.nextInt(places);
                int b = random.nextInt(places);
                call("way", a, b, overHills(a, b), random.nextInt(900) + 99);
                return;
            }
            int low = miles();
            int high = random.nextBoolean() ? low : low + within(0, 300);
            call("way", place(), place(), low, high);
        }

        void sheetCall() {
            int s = random.nextInt(6) == 0 ? within(0, 3) : 0;
            switch (random.nextInt(9)) {
                case 0: {
                    int[] bits = {0, 8, 16, 64, 16, 64, 32, 1};
                    call("sheet", s, bits[random.nextInt(bits.length)], random.nextInt(3) == 0 ? within(0, 40) : within(2, 6));
                    return;
                }
                case 1:
                    call("copy", s, within(0, 4), within(0, 3), within(0, 4), within(0, 5));
                    return;
                case 2:
                    call("lays", s, place());
                    return;
                case 3:
                case 4:
                    call("read", s);
                    return;
                case 5:
                    call("write", s, within(0, 6), random.nextLong());
                    return;
                case 6:
                    call("write", s, within(0, 6), miles());
                    return;
                default:
                    for (int i = 0, at = random.nextInt(places); i < 6; i++) {
                        call("write", s, i, at);
                        int next = model.nearest(Math.min(at, model.land.places() - 1));
                        at = random.nextBoolean() && next >= 0 ? next : random.nextInt(places);
                        if (model.land.places() == 0) {
                            return;
                        }
                    }
                    call("read", s);
            }
        }

        void anyCall() {
            switch (random.nextInt(52)) {
                case 0: call("place"); return;
                case 1: call("errands", place(), within(0, 99)); return;
                case 2: case 3: case 4: case 5: case 6: wayCall(); return;
                case 7: call("wayOf", place(), place(), within(0, 2)); return;
                case 8: case 9: call("shut", place(), place(), random.nextInt(2)); return;
                case 10: call("far", place(), place()); return;
                case 11: case 12: call("by", place(), place(), within(-1, 4)); return;
                case 13: call("loops"); return;
                case 14: call("longer", place(), place()); return;
                case 15: call("round", within(0, 6), place()); return;
                case 16: case 17: case 18: call("over", within(0, 7), place()); return;
                case 19: case 20: case 21: call("sum", within(0, 7)); return;
                case 22: call("roundOf", within(0, 7), within(-2, 5)); return;
                case 23: call("as", within(0, 7), within(0, 6)); return;
                case 24: call("live"); return;
                case 25: call("trip", place()); return;
                case 26: case 27: call("meet", place(), place(), within(0, 2)); return;
                case 28: call("fit"); return;
                case 29: call("height", place()); return;
                case 30: call("paper", place(), place()); return;
                case 31: call("worst"); return;
                case 32: call("walk", place(), place(), random.nextInt(4) == 0 ? within(-9999, 9999) : within(-100, 1500), within(0, 99)); return;
                case 33: case 34: call("on", within(0, 7), place()); return;
                case 35: call(random.nextInt(4) == 0 ? "learn" : "lies"); return;
                case 36: call("lies"); return;
                case 37: call("known", within(0, 2)); return;
                case 38: call("ask"); return;
                case 39: case 40: call("saves", place(), place()); return;
                case 41: if (random.nextInt(3) == 0) { call("mend"); } return;
                case 42: call("goes", place(), random.nextBoolean() ? within(0, 12) : within(0, 1000)); return;
                case 43: call("hollow"); return;
                case 44: if (odd()) { call("feed", random.nextInt(), within(1, 4)); call("wipe"); } return;
                case 45: if (random.nextInt(5) == 0) { pourText(); } return;
                case 46: case 47: sheetCall(); return;
                case 48: call(random.nextInt(3) == 0 ? "image" : "loops"); return;
                case 49: if (odd()) { call(random.nextInt(4) == 0 ? "tear" : "undo"); } return;
                case 50: call("count", within(0, 5)); return;
                default: call("status", within(-1, 6));
            }
        }

        boolean holds() {
            int land = random.nextInt(4);
            for (int p = 0; p < places; p++) {
                if (land > 1 || random.nextInt(4) > 0) {
                    call("place");
                }
            }
            if (land == 2) {
                hillWays();
                for (int r = 0; r < 8; r++) {
                    hillRow(r);
                }
            }
            if (land == 3) {
                survey();
            }
            int ways = random.nextInt(1 + places * places);
            for (int i = 0; i < ways; i++) {
                wayCall();
            }
            while (right && told.size() < 480) {
                int before = told.size();
                anyCall();
                if (told.size() == before) {
                    call("count", 0);
                }
            }
            for (int w = -1; w < 7 && right; w++) {
                call("status", w);
            }
            return right;
        }
    }

    public static void main(String[] args) {
        int runs = args.length > 0 ? Integer.parseInt(args[0]) : 300;
        long seed = args.length > 1 ? Long.parseLong(args[1]) : 1;
        Map<String, Integer> answered = new TreeMap<>();
        for (int run = 0; run < runs; run++) {
            Run r = new Run(seed + run);
            if (!r.holds()) {
                System.out.println("run with seed " + (seed + run) + " is not as due");
                System.exit(1);
            }
            for (String line : r.told) {
                String answer = line.substring(line.indexOf("-> ") + 3);
                String kind = answer.startsWith("-100000000") ? answer.substring(answer.length() - 1) : "ok";
                answered.merge(line.substring(0, line.indexOf('[')) + " " + kind, 1, Integer::sum);
            }
        }
        if (args.length > 2) {
            System.out.println(answered);
        }
        System.out.println("all answers of " + runs + " runs are as due");
    }
}
