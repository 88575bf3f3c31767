import java.math.BigInteger;
import java.util.ArrayList;
import java.util.Arrays;
import java.util.List;
import java.util.Random;

/** Long chance runs of calls (the same each time), each answer against a plain model written from the document alone. */
public final class ModelTests {
    private static final int UNKNOWN = -1000000001, OUTSIDE = -1000000002, NOT = -1000000003, FULL = -1000000004;
    private static final long BILLION = 1000000000L;
    private static int wrong = 0;
    private static final java.util.Map<String, Integer> answered = new java.util.TreeMap<>();

    /** One move: to a place, with a chance of a hundred. */
    private static final class Step {
        final int to;
        int c;

        Step(int to, int c) {
            this.to = to;
            this.c = c;
        }
    }

    /** A text that is read token by token, by a table of what may stand where. */
    private static final class Parsed {
        List<List<Step>> places = new ArrayList<>();
        int fault = 0;
        int at = -1;

        Parsed(byte[] text, int length) {
            List<int[]> goals = new ArrayList<>();
            String expects = "first";
            int i = 0;
            int sum = 0;
            while (fault == 0) {
                while (i < length && text[i] == 32) {
                    i++;
                }
                if (i == length) {
                    if (!expects.equals("first") && !expects.equals("end")) {
                        set(1, i);
                    }
                    break;
                }
                int start = i;
                char first = (char) (text[i] & 255);
                StringBuilder token = new StringBuilder();
                if (letter(first)) {
                    for (; i < length && letter((char) (text[i] & 255)); i++) {
                        token.append((char) text[i]);
                    }
                } else if (figure(first)) {
                    for (; i < length && figure((char) (text[i] & 255)); i++) {
                        token.append((char) text[i]);
                    }
                } else {
                    token.append(first);
                    i++;
                }
                String t = token.toString();
                switch (expects) {
                    case "first":
                    case "place":
                        if (t.equals("place")) {
                            if (places.size() == 11) {
                                set(3, start);
                            }
                            places.add(new ArrayList<>());
                            sum = 0;
                            expects = "to";
                        } else if (t.equals("bridge")) {
                            places.add(new ArrayList<>());
                            expects = "semicolon";
                        } else {
                            set(1, start);
                        }
                        break;
                    case "more":
                    case "to":
                        if (t.equals("to")) {
                            if (places.get(places.size() - 1).size() == 4) {
                                set(3, start);
                            }
                            expects = "P";
                        } else if (t.equals(";") && expects.equals("more")) {
                            if (sum < 100) {
                                set(5, start);
                            }
                            expects = "place";
                        } else {
                            set(1, start);
                        }
                        break;
                    case "P": {
                        if (!figure(first)) {
                            set(1, start);
                            break;
                        }
                        if (t.length() > 3 || Integer.parseInt(t) > 11) {
                            set(2, start);
                            break;
                        }
                        int p = Integer.parseInt(t);
                        for (Step s : places.get(places.size() - 1)) {
                            if (s.to == p) {
                                set(4, start);
                            }
                        }
                        places.get(places.size() - 1).add(new Step(p, 0));
                        goals.add(new int[] {p, start});
                        expects = "C";
                        break;
                    }
                    case "C": {
                        if (!figure(first)) {
                            set(1, start);
                            break;
                        }
                        if (t.length() > 3 || Integer.parseInt(t) > 100 || Integer.parseInt(t) < 1) {
                            set(2, start);
                            break;
                        }
                        int c = Integer.parseInt(t);
                        sum += c;
                        if (sum > 100) {
                            set(5, start);
                        }
                        List<Step> steps = places.get(places.size() - 1);
                        steps.get(steps.size() - 1).c = c;
                        expects = "more";
                        break;
                    }
                    case "semicolon":
                        if (t.equals(";")) {
                            expects = "end";
                        } else {
                            set(1, start);
                        }
                        break;
                    default:
                        set(1, start);
                }
            }
            for (int k = 0; k < goals.size() && fault == 0; k++) {
                if (goals.get(k)[0] >= places.size()) {
                    set(6, goals.get(k)[1]);
                }
            }
        }

        private void set(int number, int byteAt) {
            if (fault == 0) {
                fault = number;
                at = byteAt;
            }
        }

        private static boolean letter(char c) {
            return c >= 'a' && c <= 'z';
        }

        private static boolean figure(char c) {
            return c >= '0' && c <= '9';
        }
    }

    /** What an image keeps. */
    private static final class State {
        int[][] cork = new int[2][3];
        int[] spot = {0, 0};
        int minute = 0;
        boolean[] stones = new boolean[12];
        List<List<Step>> places = new ArrayList<>();
        long seed = 0;

        State copy() {
            State s = new State();
            for (int k = 0; k < 2; k++) {
                s.cork[k] = cork[k].clone();
            }
            s.spot = spot.clone();
            s.minute = minute;
            s.stones = stones.clone();
            for (List<Step> steps : places) {
                List<Step> to = new ArrayList<>();
                for (Step x : steps) {
                    to.add(new Step(x.to, x.c));
                }
                s.places.add(to);
            }
            s.seed = seed;
            return s;
        }
    }

    /** The document, as plainly as can be. */
    private static final class Model {
        byte[] text = new byte[500];
        int length = 0;
        int faultAt = -1;
        State s = new State();
        State[] images = new State[2];
        List<int[]> runs = new ArrayList<>();
        List<List<Integer>> logs = List.of(new ArrayList<>(), new ArrayList<>());

        int n() {
            return s.places.size();
        }

        boolean ahead(int p) {
            return p >= 0 && p < n() - 1;
        }

        boolean place(int p) {
            return p >= 0 && p < n();
        }

        boolean side(int k) {
            return k == 0 || k == 1;
        }

        int feed(int k, long bytes) {
            if (k < 1 || k > 8) {
                return OUTSIDE;
            }
            if (length + k > 500) {
                return FULL;
            }
            for (int i = 0; i < k; i++) {
                text[length++] = (byte) (bytes >>> (8 * (k - 1 - i)));
            }
            return length;
        }

        int stream() {
            Parsed parsed = new Parsed(text, length);
            length = 0;
            faultAt = parsed.at;
            if (parsed.fault != 0) {
                return -10 - parsed.fault;
            }
            long seed = s.seed;
            s = new State();
            s.seed = seed;
            s.places = parsed.places;
            images = new State[2];
            runs.clear();
            logs.get(0).clear();
            logs.get(1).clear();
            return n();
        }

        List<Step> ways(int p) {
            List<Step> all = new ArrayList<>();
            for (Step x : s.places.get(p)) {
                all.add(new Step(x.to, x.c));
            }
            if (s.stones[p]) {
                int g = Math.min(20, all.get(0).c - 1);
                if (g > 0) {
                    all.get(0).c -= g;
                    all.add(0, new Step(p, g));
                }
            }
            return all;
        }

        boolean canCome(int p) {
            boolean[] seen = new boolean[n()];
            List<Integer> open = new ArrayList<>(List.of(p));
            while (!open.isEmpty()) {
                int q = open.remove(open.size() - 1);
                if (q == n() - 1) {
                    return true;
                }
                if (!seen[q]) {
                    seen[q] = true;
                    for (Step x : s.places.get(q)) {
                        open.add(x.to);
                    }
                }
            }
            return false;
        }

        int told(int what) {
            int set = 0;
            switch (what) {
                case 0: return n();
                case 1: return runs.size();
                case 2: return length;
                case 3: return logs.get(0).size();
                case 4: return logs.get(1).size();
                case 5: return s.minute;
                case 6:
                    for (int p = 0; p < n(); p++) {
                        set += canCome(p) ? 0 : 1 << p;
                    }
                    return set;
                case 7:
                    for (int p = 0; p < 12; p++) {
                        set += s.stones[p] ? 1 << p : 0;
                    }
                    return set;
                default: return OUTSIDE;
            }
        }

        int move(int p, int i, int what) {
            if (!place(p) || i < -1 || i >= s.places.get(p).size()) {
                return UNKNOWN;
            }
            if (what != 0 && what != 1) {
                return OUTSIDE;
            }
            if (i == -1) {
                return s.places.get(p).size();
            }
            return what == 0 ? s.places.get(p).get(i).to : s.places.get(p).get(i).c;
        }

        int cork(int k, int what, int v) {
            if (!side(k) || what == 0 && (v < 0 || v > 2) || what == 1 && !ahead(v)) {
                return UNKNOWN;
            }
            if (what < 0 || what > 2 || what == 2 && (v < 0 || v > 30)) {
                return OUTSIDE;
            }
            if (n() < 2) {
                return NOT;
            }
            int was = s.cork[k][what];
            s.cork[k][what] = v;
            begin();
            return was;
        }

        /** Odds of all places at each minute of its own. */
        long[][] odds(int kind, int p) {
            long[][] rows = new long[201][];
            rows[0] = new long[n()];
            rows[0][p] = BILLION;
            for (int t = 1; t <= 200; t++) {
                rows[t] = rows[t - 1].clone();
                int goes = kind == 1 ? 2 : kind == 2 ? (t % 2 == 0 ? 1 : 0) : 1;
                for (int g = 0; g < goes; g++) {
                    long[] to = new long[n()];
                    to[n() - 1] = rows[t][n() - 1];
                    for (int q = 0; q < n() - 1; q++) {
                        List<Step> ways = ways(q);
                        long gone = 0;
                        for (int w = 0; w < ways.size(); w++) {
                            long part = w == ways.size() - 1 ? rows[t][q] - gone : rows[t][q] * ways.get(w).c / 100;
                            to[ways.get(w).to] += part;
                            gone += part;
                        }
                    }
                    rows[t] = to;
                }
            }
            return rows;
        }

        /** Comes by each minute 0 to 200 of a cork set in at a minute. */
        long[] coming(int kind, int p, int m) {
            long[][] rows = odds(kind, p);
            long[] by = new long[201];
            for (int u = m; u <= 200; u++) {
                by[u] = rows[u - m][n() - 1];
            }
            return by;
        }

        int comes(int kind, int p, int t) {
            return at(kind, p, t, n() - 1);
        }

        int at(int kind, int p, int t, int q) {
            if (kind < 0 || kind > 2 || !place(p) || !place(q)) {
                return UNKNOWN;
            }
            if (t < 0 || t > 200) {
                return OUTSIDE;
            }
            return (int) odds(kind, p)[t][q];
        }

        int kept(int kind, int p, int t) {
            if (kind < 0 || kind > 2 || !place(p)) {
                return UNKNOWN;
            }
            if (t < 0 || t > 200) {
                return OUTSIDE;
            }
            long sum = 0;
            for (int q = 0; q < n(); q++) {
                sum += canCome(q) ? 0 : odds(kind, p)[t][q];
            }
            return (int) sum;
        }

        int known(int kind, int p, int d) {
            if (kind < 0 || kind > 2 || !place(p)) {
                return UNKNOWN;
            }
            if (d < 1 || d > 1000) {
                return OUTSIDE;
            }
            long[] a = coming(kind, p, 0);
            long[] b = coming(0, p, 0);
            for (int t = 0; t <= 200; t++) {
                if (Math.abs(a[t] - b[t]) / 1000000 >= d) {
                    return t;
                }
            }
            return -1;
        }

        /** How late the one with the first row is, the other one's row behind it. */
        static int late(long[] own, long[] other) {
            BigInteger sum = BigInteger.ZERO;
            for (int u = 0; u <= 200; u++) {
                long just = other[u] - (u == 0 ? 0 : other[u - 1]);
                sum = sum.add(BigInteger.valueOf(just).multiply(BigInteger.valueOf(BILLION - own[u])).divide(BigInteger.valueOf(BILLION)));
            }
            return sum.divide(BigInteger.valueOf(1000)).intValue();
        }

        long[] coming(int k) {
            return coming(s.cork[k][0], s.cork[k][1], s.cork[k][2]);
        }

        int later(int what) {
            if (what < 0 || what > 2) {
                return OUTSIDE;
            }
            if (n() < 2) {
                return NOT;
            }
            long[] a = coming(0);
            long[] b = coming(1);
            if (what < 2) {
                return what == 0 ? late(a, b) : late(b, a);
            }
            long sum = 0;
            for (int u = 1; u <= 200; u++) {
                sum += (a[u] - a[u - 1]) * (b[u] - b[u - 1]) / BILLION;
            }
            return (int) (sum / 1000);
        }

        int best(int k, int m, int what) {
            if (!side(k)) {
                return UNKNOWN;
            }
            if (m < 0 || m > 10 || what < 0 || what > 2) {
                return OUTSIDE;
            }
            if (n() < 2) {
                return NOT;
            }
            int[] best = null;
            long[] other = coming(1 - k);
            for (int p = 0; p < n() - 1; p++) {
                for (int u = 0; u <= m; u++) {
                    int now = late(coming(s.cork[k][0], p, u), other);
                    if (best == null || now < best[2]) {
                        best = new int[] {p, u, now};
                    }
                }
            }
            return best[what];
        }

        int mixed(int p, int k, int what) {
            if (!ahead(p) || (long) p + k > n() - 1) {
                return UNKNOWN;
            }
            if (k < 1 || k > 3 || what < 0 || what > 6) {
                return OUTSIDE;
            }
            int[][] a = new int[k][k];
            for (int i = 0; i < k; i++) {
                for (int j = 0; j < k; j++) {
                    a[i][j] = late(coming(s.cork[0][0], p + i, 0), coming(s.cork[1][0], p + j, 0)) / 1000;
                }
            }
            return Mixed.solve(a, what);
        }

        int stone(int p, boolean is) {
            if (!ahead(p)) {
                return UNKNOWN;
            }
            int was = s.stones[p] ? 1 : 0;
            s.stones[p] = is;
            return was;
        }

        int most(int k, int what) {
            if (!side(k)) {
                return UNKNOWN;
            }
            if (what < 0 || what > 1) {
                return OUTSIDE;
            }
            if (n() < 2) {
                return NOT;
            }
            int now = later(k);
            int place = 0;
            int by = 0;
            for (int p = n() - 2; p >= 0; p--) {
                s.stones[p] = !s.stones[p];
                int more = later(k) - now;
                s.stones[p] = !s.stones[p];
                if (Math.abs(more) >= Math.abs(by)) {
                    place = p;
                    by = more;
                }
            }
            return what == 0 ? place : by;
        }

        int run(int p, int t) {
            if (!ahead(p)) {
                return UNKNOWN;
            }
            if (t < 1 || t > 200) {
                return OUTSIDE;
            }
            if (runs.size() == 12) {
                return FULL;
            }
            runs.add(new int[] {p, t});
            return runs.size();
        }

        int forget() {
            int had = runs.size();
            runs.clear();
            return had;
        }

        int fit(int p) {
            if (p != -1 && !ahead(p)) {
                return UNKNOWN;
            }
            if (p != -1) {
                s.stones[p] = !s.stones[p];
            }
            long f = BILLION;
            for (int[] r : runs) {
                long[] by = coming(0, r[0], 0);
                f = f * ((by[r[1]] - by[r[1] - 1]) / 1000) / 1000000;
                f = f < 1 ? 1 : f;
            }
            if (p != -1) {
                s.stones[p] = !s.stones[p];
            }
            return (int) f;
        }

        int stoned() {
            int which = -1;
            for (int p = 0; p < n() - 1; p++) {
                if (fit(p) > fit(which)) {
                    which = p;
                }
            }
            return which;
        }

        int dig(int p, int from, int to, int k) {
            if (!place(p)) {
                return UNKNOWN;
            }
            List<Step> steps = s.places.get(p);
            if (from < 0 || from >= steps.size() || to < 0 || to >= steps.size() || from == to) {
                return UNKNOWN;
            }
            if (k < 1 || k > 99) {
                return OUTSIDE;
            }
            if (steps.get(from).c - k < 1) {
                return NOT;
            }
            steps.get(from).c -= k;
            return steps.get(to).c += k;
        }

        int fair(int e, int what) {
            if (e < 0 || e > 1000000 || what < 0 || what > 3) {
                return OUTSIDE;
            }
            if (n() < 2) {
                return NOT;
            }
            if (Math.abs(later(0) - later(1)) <= e) {
                return what == 0 ? 0 : -1;
            }
            for (int k = 1; k <= 20; k++) {
                for (int p = 0; p < n() - 1; p++) {
                    for (int from = 0; from < 4; from++) {
                        for (int to = 0; to < 4; to++) {
                            if (dig(p, from, to, k) < 0) {
                                continue;
                            }
                            boolean fair = Math.abs(later(0) - later(1)) <= e;
                            dig(p, to, from, k);
                            if (fair) {
                                return new int[] {k, p, from, to}[what];
                            }
                        }
                    }
                }
            }
            return -1;
        }

        int draw(int k) {
            s.seed = BigInteger.valueOf(s.seed).multiply(BigInteger.valueOf(1103515245L)).add(BigInteger.valueOf(12345))
                .mod(BigInteger.TWO.pow(31)).longValue();
            return (int) (s.seed / 65536 % k);
        }

        void goOnce(int k) {
            if (s.spot[k] == n() - 1) {
                return;
            }
            int d = draw(100);
            int far = 0;
            for (Step x : ways(s.spot[k])) {
                far += x.c;
                if (far > d) {
                    s.spot[k] = x.to;
                    return;
                }
            }
        }

        int ended() {
            boolean a = s.spot[0] == n() - 1;
            boolean b = s.spot[1] == n() - 1;
            return a && b ? 3 : a ? 1 : b ? 2 : 0;
        }

        int drift(int k) {
            if (k < 1 || k > 200) {
                return OUTSIDE;
            }
            if (n() < 2) {
                return NOT;
            }
            while (k > 0 && ended() == 0) {
                k--;
                s.minute++;
                for (int x = 0; x < 2; x++) {
                    int own = s.minute - s.cork[x][2];
                    if (own == 0) {
                        s.spot[x] = s.cork[x][1];
                    } else if (own > 0) {
                        if (s.cork[x][0] != 2 || own % 2 == 0) {
                            goOnce(x);
                        }
                        if (s.cork[x][0] == 1) {
                            goOnce(x);
                        }
                    }
                }
            }
            return ended();
        }

        int where(int k) {
            return !side(k) ? UNKNOWN : n() < 2 ? NOT : s.spot[k];
        }

        int begin() {
            int was = s.minute;
            s.minute = 0;
            for (int k = 0; k < 2; k++) {
                s.spot[k] = s.cork[k][2] == 0 ? s.cork[k][1] : -1;
            }
            return was;
        }

        int morning(int k) {
            if (k < 1 || k > 40) {
                return OUTSIDE;
            }
            if (n() < 2) {
                return NOT;
            }
            int[] spot = s.spot.clone();
            int minute = s.minute;
            int won = 0;
            for (int i = 0; i < k; i++) {
                begin();
                won += drift(200) == 1 ? 1 : 0;
            }
            s.spot = spot;
            s.minute = minute;
            return won;
        }

        int log(int k, int p) {
            if (!side(k) || p != 12 && !place(p)) {
                return UNKNOWN;
            }
            if (logs.get(k).size() == 40) {
                return FULL;
            }
            logs.get(k).add(p);
            return logs.get(k).size();
        }

        int clear() {
            int had = logs.get(0).size() + logs.get(1).size();
            logs.get(0).clear();
            logs.get(1).clear();
            return had;
        }

        boolean[] goOnce(boolean[] may) {
            boolean[] to = new boolean[n()];
            for (int p = 0; p < n(); p++) {
                if (may[p] && p == n() - 1) {
                    to[p] = true;
                } else if (may[p]) {
                    for (Step x : ways(p)) {
                        to[x.to] = true;
                    }
                }
            }
            return to;
        }

        int judge(int k) {
            if (!side(k)) {
                return UNKNOWN;
            }
            for (int i = 0; i < logs.get(k).size(); i++) {
                int p = logs.get(k).get(i);
                int own = i - s.cork[k][2];
                if (own < 0 && p != 12 || own == 0 && p != s.cork[k][1]) {
                    return i;
                }
                if (own > 0) {
                    boolean[] may = new boolean[n()];
                    may[logs.get(k).get(i - 1)] = true;
                    if (s.cork[k][0] != 2 || own % 2 == 0) {
                        may = goOnce(may);
                    }
                    if (s.cork[k][0] == 1) {
                        may = goOnce(may);
                    }
                    if (p == 12 || !may[p]) {
                        return i;
                    }
                }
            }
            return -1;
        }

        int seed(int v) {
            if (v < 0) {
                return OUTSIDE;
            }
            int was = (int) s.seed;
            s.seed = v;
            return was;
        }

        int keep(int i) {
            if (i != 0 && i != 1) {
                return UNKNOWN;
            }
            images[i] = s.copy();
            return 1;
        }

        int goBack(int i) {
            if (i != 0 && i != 1) {
                return UNKNOWN;
            }
            if (images[i] == null) {
                return NOT;
            }
            s = images[i].copy();
            return 1;
        }
    }

    /** Equations solved by elimination with fractions, not by determinants. */
    private static final class Mixed {
        static int solve(int[][] a, int what) {
            int n = a.length;
            for (int size = 1; size <= n; size++) {
                for (int s0 = 0; s0 < 1 << n; s0++) {
                    for (int s1 = 0; s1 < 1 << n; s1++) {
                        if (Integer.bitCount(s0) == size && Integer.bitCount(s1) == size) {
                            BigInteger[][] x = shares(a, s0, s1);
                            BigInteger[][] y = shares(turned(a), s1, s0);
                            if (x != null && y != null && holds(a, x, y)) {
                                answered.merge("mixed, size " + size, 1, Integer::sum);
                                return tell(a, x, y, what);
                            }
                        }
                    }
                }
            }
            return NOT;
        }

        static int[][] turned(int[][] a) {
            int[][] b = new int[a.length][a.length];
            for (int i = 0; i < a.length; i++) {
                for (int j = 0; j < a.length; j++) {
                    b[j][i] = a[i][j];
                }
            }
            return b;
        }

        /** Row n is {value}, the others shares: each as {above, below}; null if none, or not one way, or below 0. */
        static BigInteger[][] shares(int[][] a, int rows, int columns) {
            int n = a.length;
            int k = Integer.bitCount(rows);
            int[] own = bits(rows, n);
            int[] others = bits(columns, n);
            BigInteger[][][] m = new BigInteger[k + 1][k + 2][];
            for (int r = 0; r <= k; r++) {
                for (int c = 0; c <= k + 1; c++) {
                    long v = r < k ? (c < k ? a[own[c]][others[r]] : c == k ? -1 : 0) : (c < k ? 1 : c == k ? 0 : 1);
                    m[r][c] = new BigInteger[] {BigInteger.valueOf(v), BigInteger.ONE};
                }
            }
            for (int c = 0; c <= k; c++) {
                int pivot = c;
                while (pivot <= k && m[pivot][c][0].signum() == 0) {
                    pivot++;
                }
                if (pivot > k) {
                    return null;
                }
                BigInteger[][] swap = m[c];
                m[c] = m[pivot];
                m[pivot] = swap;
                for (int r = 0; r <= k; r++) {
                    if (r != c) {
                        BigInteger[] f = over(m[r][c], m[c][c]);
                        for (int d = c; d <= k + 1; d++) {
                            m[r][d] = minus(m[r][d], times(f, m[c][d]));
                        }
                    }
                }
            }
            BigInteger[][] out = new BigInteger[n + 1][];
            Arrays.fill(out, new BigInteger[] {BigInteger.ZERO, BigInteger.ONE});
            for (int c = 0; c < k; c++) {
                out[own[c]] = over(m[c][k + 1], m[c][c]);
                if (out[own[c]][0].signum() < 0) {
                    return null;
                }
            }
            out[n] = over(m[k][k + 1], m[k][k]);
            return out;
        }

        static boolean holds(int[][] a, BigInteger[][] x, BigInteger[][] y) {
            int n = a.length;
            for (int k = 0; k < n; k++) {
                BigInteger[] row = minus(new BigInteger[] {BigInteger.ZERO, BigInteger.ONE}, y[n]);
                BigInteger[] column = minus(new BigInteger[] {BigInteger.ZERO, BigInteger.ONE}, x[n]);
                for (int i = 0; i < n; i++) {
                    row = minus(row, times(new BigInteger[] {BigInteger.valueOf(-a[k][i]), BigInteger.ONE}, y[i]));
                    column = minus(column, times(new BigInteger[] {BigInteger.valueOf(-a[i][k]), BigInteger.ONE}, x[i]));
                }
                if (row[0].signum() < 0 || column[0].signum() > 0) {
                    return false;
                }
            }
            return true;
        }

        static int tell(int[][] a, BigInteger[][] x, BigInteger[][] y, int what) {
            int n = a.length;
            if (what == 0) {
                return x[n][0].multiply(BigInteger.valueOf(1000)).divide(x[n][1]).intValue();
            }
            int k = (what - 1) % 3;
            if (k >= n) {
                return 0;
            }
            BigInteger[] share = what < 4 ? x[k] : y[k];
            return share[0].multiply(BigInteger.valueOf(1000000)).divide(share[1]).intValue();
        }

        static int[] bits(int set, int n) {
            int[] out = new int[Integer.bitCount(set)];
            int k = 0;
            for (int i = 0; i < n; i++) {
                if ((set >> i & 1) == 1) {
                    out[k++] = i;
                }
            }
            return out;
        }

        static BigInteger[] norm(BigInteger above, BigInteger below) {
            BigInteger g = above.gcd(below);
            if (below.signum() < 0) {
                g = g.negate();
            }
            return new BigInteger[] {above.divide(g), below.divide(g)};
        }

        static BigInteger[] over(BigInteger[] p, BigInteger[] q) {
            return norm(p[0].multiply(q[1]), p[1].multiply(q[0]));
        }

        static BigInteger[] times(BigInteger[] p, BigInteger[] q) {
            return norm(p[0].multiply(q[0]), p[1].multiply(q[1]));
        }

        static BigInteger[] minus(BigInteger[] p, BigInteger[] q) {
            return norm(p[0].multiply(q[1]).subtract(q[0].multiply(p[1])), p[1].multiply(q[1]));
        }
    }

    private static void due(int run, String call, int got, int want) {
        String name = call.substring(0, call.indexOf('('));
        String how = want == UNKNOWN ? " UNKNOWN" : want == OUTSIDE ? " OUTSIDE" : want == NOT ? " NOT" : want == FULL ? " FULL" : "";
        answered.merge(name + how, 1, Integer::sum);
        if (got != want) {
            wrong++;
            if (wrong < 50) {
                System.out.println("run " + run + ": " + call + " answered " + got + ", the model " + want);
            }
        }
    }

    private static void feedBoth(int run, SlowerCork x, Model y, String text) {
        for (int i = 0; i < text.length(); i += 8) {
            int k = Math.min(8, text.length() - i);
            long bytes = 0;
            for (int j = 0; j < k; j++) {
                bytes = bytes << 8 | text.charAt(i + j) & 255;
            }
            due(run, "feed()", x.feed(k, bytes), y.feed(k, bytes));
        }
    }

    private static String goodText(Random r, int places) {
        StringBuilder b = new StringBuilder();
        for (int p = 0; p < places - 1; p++) {
            b.append("place ");
            int moves = 1 + r.nextInt(Math.min(4, places));
            List<Integer> goals = new ArrayList<>();
            while (goals.size() < moves) {
                int q = r.nextInt(3) > 0 ? Math.min(places - 1, p + r.nextInt(3)) : r.nextInt(places);
                if (!goals.contains(q)) {
                    goals.add(q);
                } else if (r.nextInt(4) == 0) {
                    moves = goals.size();
                }
            }
            int left = 100;
            for (int i = 0; i < moves; i++) {
                int c = i == moves - 1 ? left : 1 + r.nextInt(left - (moves - 1 - i));
                left -= c;
                b.append("to ").append(goals.get(i)).append(' ').append(c);
                b.append(i == moves - 1 || r.nextBoolean() ? "" : " ");
            }
            b.append(r.nextInt(5) == 0 ? " ; " : ";");
        }
        return b.append("bridge;").toString();
    }

    private static String spoilt(Random r, String text) {
        String[] bits = {"place", "to", "bridge", ";", " ", "0", "1", "12", "100", "101", "0007", "x", "A", "", "", "" + (char) 200,
            "to 3 4", "place to 0 100;", "00", "011"};
        StringBuilder b = new StringBuilder(text);
        int times = 1 + r.nextInt(2);
        for (int i = 0; i < times; i++) {
            int at = r.nextInt(b.length() + 1);
            int end = Math.min(b.length(), at + r.nextInt(4));
            b.replace(at, end, bits[r.nextInt(bits.length)]);
        }
        return b.toString();
    }

    private static void texts(Random r) {
        SlowerCork x = new SlowerCork();
        Model y = new Model();
        for (int i = 0; i < 20000; i++) {
            if (i % 50 == 0) {
                x = new SlowerCork();
                y = new Model();
            }
            String text = goodText(r, 1 + r.nextInt(r.nextInt(4) == 0 ? 12 : 5));
            if (r.nextInt(5) > 0) {
                text = spoilt(r, text);
            }
            feedBoth(i, x, y, text);
            int want = y.stream();
            due(i, "stream() of '" + text + "'", x.stream(), want);
            answered.merge("stream " + Math.min(want, 0), 1, Integer::sum);
            due(i, "fault() of '" + text + "'", x.fault(), y.faultAt);
            due(i, "told(0)", x.told(0), y.told(0));
            due(i, "told(2)", x.told(2), y.told(2));
            due(i, "told(6)", x.told(6), y.told(6));
        }
    }

    /** Every text that one byte more, less, or other makes of a good one. */
    private static void editedTexts() {
        String good = "place to 1 70to 0 30;place to 1 5 to 2 95 ; bridge;";
        SlowerCork x = new SlowerCork();
        Model y = new Model();
        for (int at = 0; at <= good.length(); at++) {
            for (int b = -1; b < 256; b++) {
                for (int end = at; end <= at + 1 && end <= good.length(); end++) {
                    String text = good.substring(0, at) + (b < 0 ? "" : Character.toString((char) b)) + good.substring(end);
                    if ((at + b) % 40 == 0) {
                        x = new SlowerCork();
                        y = new Model();
                    }
                    feedBoth(at, x, y, text);
                    due(at, "stream() of '" + text + "'", x.stream(), y.stream());
                    due(at, "fault() of '" + text + "'", x.fault(), y.faultAt);
                    due(at, "told(0) of '" + text + "'", x.told(0), y.told(0));
                }
            }
        }
    }

    /** Now and then a number that is out of the bounds. */
    private static int near(Random r, int least, int greatest) {
        if (r.nextInt(25) == 0) {
            int[] odd = {least - 1, greatest + 1, Integer.MIN_VALUE, Integer.MAX_VALUE, -1, 0};
            return odd[r.nextInt(odd.length)];
        }
        return least + r.nextInt(greatest - least + 1);
    }

    private static void oneRun(int run, Random r) {
        SlowerCork x = new SlowerCork();
        Model y = new Model();
        int places = r.nextInt(12) == 0 ? r.nextInt(2) : 2 + r.nextInt(r.nextInt(5) == 0 ? 11 : 4);
        if (places > 0) {
            feedBoth(run, x, y, goodText(r, places));
        }
        due(run, "stream()", x.stream(), y.stream());
        for (int i = 0; i < 220; i++) {
            oneCall(run, r, x, y, Math.max(1, places - 1));
        }
    }

    private static void oneCall(int run, Random r, SlowerCork x, Model y, int ahead) {
        int p = near(r, 0, ahead - 1);
        int side = near(r, 0, 1);
        int kind = near(r, 0, 2);
        int t = near(r, 0, r.nextBoolean() ? 200 : 12);
        int q = near(r, 0, ahead);
        switch (r.nextInt(34)) {
            case 0: {
                int what = near(r, 0, 2);
                int v = what == 0 ? kind : what == 1 ? p : near(r, 0, r.nextBoolean() ? 30 : 3);
                due(run, "cork(" + side + "," + what + "," + v + ")", x.cork(side, what, v), y.cork(side, what, v));
                break;
            }
            case 1: due(run, "comes(" + kind + "," + q + "," + t + ")", x.comes(kind, q, t), y.comes(kind, q, t)); break;
            case 2: due(run, "at(" + kind + "," + q + "," + t + "," + p + ")", x.at(kind, q, t, p), y.at(kind, q, t, p)); break;
            case 3: due(run, "kept(" + kind + "," + q + "," + t + ")", x.kept(kind, q, t), y.kept(kind, q, t)); break;
            case 4: {
                int d = near(r, 1, r.nextBoolean() ? 1000 : 200);
                due(run, "known(" + kind + "," + q + "," + d + ")", x.known(kind, q, d), y.known(kind, q, d));
                break;
            }
            case 5: due(run, "later(" + kind + ")", x.later(kind), y.later(kind)); break;
            case 6: {
                int m = near(r, 0, r.nextInt(4) == 0 ? 10 : 2);
                due(run, "best(" + side + "," + m + "," + kind + ")", x.best(side, m, kind), y.best(side, m, kind));
                break;
            }
            case 7:
            case 8: {
                int n = near(r, 1, 3);
                int what = near(r, 0, 6);
                due(run, "mixed(" + p + "," + n + "," + what + ")", x.mixed(p, n, what), y.mixed(p, n, what));
                break;
            }
            case 9:
            case 10: {
                boolean is = r.nextBoolean();
                due(run, "stone(" + p + "," + is + ")", x.stone(p, is), y.stone(p, is));
                break;
            }
            case 11: {
                int what = near(r, 0, 1);
                due(run, "most(" + side + "," + what + ")", x.most(side, what), y.most(side, what));
                break;
            }
            case 12:
            case 13: {
                int u = near(r, 1, r.nextInt(3) == 0 ? 200 : 8);
                due(run, "run(" + p + "," + u + ")", x.run(p, u), y.run(p, u));
                break;
            }
            case 14:
                if (r.nextInt(6) == 0) {
                    due(run, "forget()", x.forget(), y.forget());
                }
                break;
            case 15:
            case 16: {
                int f = r.nextInt(3) == 0 ? -1 : p;
                due(run, "fit(" + f + ")", x.fit(f), y.fit(f));
                break;
            }
            case 17: due(run, "stoned()", x.stoned(), y.stoned()); break;
            case 18: {
                int from = near(r, 0, 2);
                int to = near(r, 0, 2);
                int n = near(r, 1, r.nextBoolean() ? 99 : 10);
                due(run, "dig(" + p + "," + from + "," + to + "," + n + ")", x.dig(p, from, to, n), y.dig(p, from, to, n));
                break;
            }
            case 19:
                if (r.nextInt(4) == 0 && ahead < 5) {
                    int e = near(r, 0, r.nextBoolean() ? 1000000 : r.nextBoolean() ? 100000 : 1000);
                    int what = near(r, 0, 3);
                    due(run, "fair(" + e + "," + what + ")", x.fair(e, what), y.fair(e, what));
                }
                break;
            case 20:
            case 21: {
                int n = near(r, 1, r.nextInt(4) == 0 ? 200 : 3);
                due(run, "drift(" + n + ")", x.drift(n), y.drift(n));
                break;
            }
            case 22:
            case 23: due(run, "where(" + side + ")", x.where(side), y.where(side)); break;
            case 24: due(run, "begin()", x.begin(), y.begin()); break;
            case 25: {
                int n = near(r, 1, 40);
                due(run, "morning(" + n + ")", x.morning(n), y.morning(n));
                break;
            }
            case 26:
            case 27: logged(run, r, x, y, side); break;
            case 28: {
                if (r.nextInt(6) == 0) {
                    due(run, "clear()", x.clear(), y.clear());
                }
                break;
            }
            case 29: due(run, "judge(" + side + ")", x.judge(side), y.judge(side)); break;
            case 30: {
                int v = near(r, 0, Integer.MAX_VALUE - 1);
                due(run, "seed(" + v + ")", x.seed(v), y.seed(v));
                break;
            }
            case 31: due(run, "keep(" + side + ")", x.keep(side), y.keep(side)); break;
            case 32: due(run, "goBack(" + side + ")", x.goBack(side), y.goBack(side)); break;
            default: {
                int i = near(r, -1, 3);
                int what = near(r, 0, 1);
                due(run, "move(" + q + "," + i + "," + what + ")", x.move(q, i, what), y.move(q, i, what));
                int told = near(r, 0, 7);
                due(run, "told(" + told + ")", x.told(told), y.told(told));
            }
        }
    }

    /** Mostly what can be, so that logs grow long before they are wrong. */
    private static void logged(int run, Random r, SlowerCork x, Model y, int side) {
        for (int i = 0; i < 3; i++) {
            int p = near(r, 0, 12);
            if (y.side(side) && r.nextInt(10) > 0 && y.n() > 1) {
                List<Integer> log = y.logs.get(side);
                int own = log.size() - y.s.cork[side][2];
                int last = log.isEmpty() ? 12 : log.get(log.size() - 1);
                if (own < 0) {
                    p = 12;
                } else if (own == 0) {
                    p = y.s.cork[side][1];
                } else if (y.s.cork[side][0] == 2 && own % 2 == 1 || last == 12 || last == y.n() - 1) {
                    p = last;
                } else {
                    List<Step> ways = y.ways(last);
                    p = ways.get(r.nextInt(ways.size())).to;
                    if (y.s.cork[side][0] == 1 && p < y.n() - 1) {
                        ways = y.ways(p);
                        p = ways.get(r.nextInt(ways.size())).to;
                    }
                }
            }
            due(run, "log(" + side + "," + p + ")", x.log(side, p), y.log(side, p));
            due(run, "judge(" + side + ")", x.judge(side), y.judge(side));
        }
    }

    /** Three places of which each is beaten by another: both sides must mix all three. */
    private static void threeAreMixed() {
        String line = "place to 10 33 to 8 33 to 3 34; place to 11 33 to 6 33 to 4 34; place to 9 33 to 7 33 to 5 34;"
            + "place to 4 100;place to 5 100;place to 6 100;place to 7 100;place to 8 100;place to 9 100;place to 10 100;"
            + "place to 11 100;bridge;";
        SlowerCork x = new SlowerCork();
        Model y = new Model();
        feedBoth(-1, x, y, line);
        due(-1, "stream()", x.stream(), y.stream());
        for (int digs = 0; digs < 60; digs++) {
            for (int what = 0; what <= 6; what++) {
                due(-1, "mixed(0, 3, " + what + ") after " + digs + " digs", x.mixed(0, 3, what), y.mixed(0, 3, what));
            }
            int p = digs % 3;
            int from = digs / 3 % 3;
            int to = (from + 1 + digs / 9 % 2) % 3;
            due(-1, "dig()", x.dig(p, from, to, 3 + digs % 7), y.dig(p, from, to, 3 + digs % 7));
            due(-1, "cork()", x.cork(digs % 2, 0, digs / 20), y.cork(digs % 2, 0, digs / 20));
        }
    }

    /** Places 0 to 2 send corks into a line at chance delays, so that often none of the three is best by itself. */
    private static void mixedByDelays(Random r) {
        int[][] parts = {{100}, {50, 50}, {25, 75}, {10, 90}, {30, 30, 40}, {50, 25, 25}, {25, 25, 25, 25}, {40, 10, 20, 30}};
        for (int i = 0; i < 250; i++) {
            StringBuilder text = new StringBuilder();
            for (int p = 0; p < 3; p++) {
                text.append("place ");
                List<Integer> goals = new ArrayList<>(List.of(3, 4, 5, 6, 7, 8, 9, 10, 11));
                for (int c : parts[r.nextInt(parts.length)]) {
                    text.append("to ").append(goals.remove(r.nextInt(goals.size()))).append(' ').append(c);
                }
                text.append(';');
            }
            for (int p = 3; p < 11; p++) {
                text.append("place to ").append(p + 1).append(" 100;");
            }
            SlowerCork x = new SlowerCork();
            Model y = new Model();
            feedBoth(i, x, y, text + "bridge;");
            due(i, "stream()", x.stream(), y.stream());
            for (int kinds = 0; kinds < 3; kinds++) {
                int kind = r.nextInt(3);
                due(i, "cork()", x.cork(kinds % 2, 0, kind), y.cork(kinds % 2, 0, kind));
                for (int what = 0; what <= 13; what++) {
                    int n = 2 + what / 7;
                    due(i, "mixed(0, " + n + ", " + what % 7 + ") of " + text, x.mixed(0, n, what % 7), y.mixed(0, n, what % 7));
                }
            }
        }
    }

    public static void main(String[] args) {
        texts(new Random(1));
        editedTexts();
        threeAreMixed();
        mixedByDelays(new Random(2));
        int runs = args.length > 0 ? Integer.parseInt(args[0]) : 150;
        for (int run = 0; run < runs; run++) {
            oneRun(run, new Random(1000 + run));
        }
        if (args.length > 0) {
            System.out.println(answered);
        }
        System.out.println(wrong == 0 ? "all answers are the model's" : wrong + " answers are not the model's");
        if (wrong != 0) {
            System.exit(1);
        }
    }
}
