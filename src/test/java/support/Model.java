import java.util.ArrayList;
import java.util.Arrays;
import java.util.List;
import java.util.TreeSet;
import java.util.regex.Matcher;
import java.util.regex.Pattern;

/**
 * The document once more, as slow and as literal as can be, by other means than the program's:
 * rows are all tried, sets are all tried, nothing is kept between two calls.
 */
final class Model {
    static final int BAD = -1, STATE = -2, FULL = -3, NONE = -4;

    record Hour(int a, int b, int least, int most, int writer, int season) {
        boolean joins(int x, int y) {
            return a == x && b == y || a == y && b == x;
        }
    }

    private int n = 4;
    private int season = 1;
    private int fault = 0;
    private final StringBuilder tape = new StringBuilder();
    private List<Hour> hours = new ArrayList<>();
    private TreeSet<Integer> doubted = new TreeSet<>();
    private Integer[][] net = new Integer[8][8];
    private final Object[] sheets = new Object[4];

    int towns(int v) {
        if (v < 2 || v > 8) {
            return BAD;
        }
        int was = n;
        n = v;
        hours = new ArrayList<>();
        doubted = new TreeSet<>();
        net = new Integer[8][8];
        season = 1;
        return was;
    }

    int feed(long v) {
        if (tape.length() + 8 > 240) {
            return FULL;
        }
        for (int i = 7; i >= 0; i--) {
            tape.append((char) (v >> 8 * i & 0xff));
        }
        return tape.length();
    }

    int end(int k) {
        if (k < 0 || k > tape.length()) {
            return BAD;
        }
        int had = tape.length();
        tape.setLength(k);
        return had;
    }

    // ---- the text

    private static final class Fault extends Exception {
        private static final long serialVersionUID = 1;
        final int kind;
        final int place;

        Fault(int kind, int place) {
            super("fault");
            this.kind = kind;
            this.place = place;
        }
    }

    private static final Pattern TOKEN = Pattern.compile(" *([a-z]+|[0-9]+|;|$|.)", Pattern.DOTALL);

    private static final class Text {
        final String all;
        final Matcher m;
        String token;
        int place;

        Text(String all) {
            this.all = all;
            m = TOKEN.matcher(all);
        }

        void next() throws Fault {
            m.region(m.regionStart() == 0 && token == null ? 0 : m.end(), all.length());
            if (!m.lookingAt()) {
                throw new IllegalStateException();
            }
            token = m.group(1);
            place = m.start(1);
            if (token.matches("[0-9]{5,}") || !token.matches("[a-z]+|[0-9]+|;|")) {
                throw new Fault(1, place);
            }
        }

        int number(int low, int high) throws Fault {
            next();
            if (!token.matches("[0-9]+")) {
                throw new Fault(2, place);
            }
            int v = Integer.parseInt(token);
            if (v < low || v > high) {
                throw new Fault(3, place);
            }
            return v;
        }

        void mustBeLetter() throws Fault {
            if (!token.matches("[a-z]")) {
                throw new Fault(2, place);
            }
        }
    }

    private List<Hour> parse(String all) throws Fault {
        List<Hour> found = new ArrayList<>();
        Text t = new Text(all);
        t.next();
        while (!t.token.isEmpty()) {
            t.mustBeLetter();
            if (found.size() == 24) {
                throw new Fault(5, t.place);
            }
            int a = town(t);
            t.next();
            t.mustBeLetter();
            int b = town(t);
            if (a == b) {
                throw new Fault(4, t.place);
            }
            int least = t.number(1, 9999);
            int most = least;
            int writer = 0;
            int when = 0;
            t.next();
            if (t.token.equals("to")) {
                most = t.number(least, 9999);
                t.next();
            }
            if (t.token.equals("by")) {
                writer = t.number(0, 5);
                t.next();
            }
            if (t.token.equals("summer") || t.token.equals("winter")) {
                when = t.token.equals("summer") ? 1 : 2;
                t.next();
            }
            if (!t.token.equals(";")) {
                throw new Fault(2, t.place);
            }
            found.add(new Hour(a, b, least, most, writer, when));
            t.next();
        }
        return found;
    }

    private int town(Text t) throws Fault {
        int k = t.token.charAt(0) - 'a';
        if (k >= n) {
            throw new Fault(4, t.place);
        }
        return k;
    }

    int hours() {
        String all = tape.toString();
        tape.setLength(0);
        try {
            hours = parse(all);
            doubted = new TreeSet<>();
            fault = 0;
            return hours.size();
        } catch (Fault f) {
            fault = f.kind;
            return -10 - f.place;
        }
    }

    int fault() {
        return fault;
    }

    int hour(int k, int what) {
        if (k < 0 || k >= hours.size()) {
            return BAD;
        }
        Hour h = hours.get(k);
        int[] all = {h.a, h.b, h.least, h.most, h.writer, h.season, doubted.contains(k) ? 1 : 0,
            counting(season).contains(k) ? 1 : 0};
        return what < 0 || what >= all.length ? BAD : all[what];
    }

    int doubt(int k, boolean is) {
        if (k < 0 || k >= hours.size()) {
            return BAD;
        }
        boolean was = is ? !doubted.add(k) : doubted.remove(k);
        return was ? 1 : 0;
    }

    int season(int v) {
        if (v != 1 && v != 2) {
            return BAD;
        }
        int was = season;
        season = v;
        return was;
    }

    // ---- lands

    private List<Integer> counting(int when) {
        List<Integer> found = new ArrayList<>();
        for (int k = 0; k < hours.size(); k++) {
            int s = hours.get(k).season;
            if ((s == 0 || s == when) && !doubted.contains(k)) {
                found.add(k);
            }
        }
        return found;
    }

    /** Least sums by going round until nothing becomes less; null: none. */
    private Integer[][] sums(Integer[][] steps) {
        Integer[][] d = new Integer[n][n];
        for (int s = 0; s < n; s++) {
            d[s][s] = 0;
            boolean isLess = true;
            while (isLess) {
                isLess = false;
                for (int u = 0; u < n; u++) {
                    for (int v = 0; v < n; v++) {
                        if (d[s][u] == null || steps[u][v] == null) {
                            continue;
                        }
                        int sum = d[s][u] + steps[u][v];
                        if (d[s][v] == null || sum < d[s][v]) {
                            d[s][v] = sum;
                            isLess = true;
                        }
                    }
                }
            }
        }
        return d;
    }

    private Integer[][] longs(List<Integer> which) {
        Integer[][] steps = new Integer[n][n];
        for (int k : which) {
            Hour h = hours.get(k);
            if (steps[h.a][h.b] == null || h.most < steps[h.a][h.b]) {
                steps[h.a][h.b] = h.most;
                steps[h.b][h.a] = h.most;
            }
        }
        return sums(steps);
    }

    private Integer[][] longs() {
        return longs(counting(season));
    }

    private int barring(List<Integer> which) {
        Integer[][] d = longs(which);
        for (int k : which) {
            Hour h = hours.get(k);
            if (d[h.a][h.b] < h.least) {
                return k;
            }
        }
        return -1;
    }

    private boolean canBe() {
        return barring(counting(season)) < 0;
    }

    int can() {
        return canBe() ? 1 : 0;
    }

    private boolean pair(int a, int b) {
        return a >= 0 && a < n && b >= 0 && b < n && a != b;
    }

    int longest(int a, int b) {
        if (!pair(a, b)) {
            return BAD;
        }
        Integer d = longs()[a][b];
        return d == null ? NONE : d;
    }

    private int shortOf(int a, int b) {
        Integer[][] d = longs();
        int found = 1;
        for (int k : counting(season)) {
            Hour h = hours.get(k);
            if (d[h.a][a] != null && d[h.b][b] != null) {
                found = Math.max(found, h.least - d[h.a][a] - d[h.b][b]);
            }
            if (d[h.b][a] != null && d[h.a][b] != null) {
                found = Math.max(found, h.least - d[h.b][a] - d[h.a][b]);
            }
        }
        return found;
    }

    int shortest(int a, int b) {
        if (!pair(a, b)) {
            return BAD;
        }
        if (!canBe()) {
            return STATE;
        }
        return longs()[a][b] == null ? NONE : shortOf(a, b);
    }

    int must(int a, int b) {
        int s = shortest(a, b);
        if (s < 0) {
            return s;
        }
        Integer[][] d = longs();
        for (int t = 0; t < n; t++) {
            if (t != a && t != b && d[a][t] != null && shortOf(a, t) + shortOf(t, b) <= d[a][b]) {
                return 0;
            }
        }
        return 1;
    }

    /** All rows without a TOWN twice, the least by numbers first. */
    private void rows(int at, int goal, int left, List<Integer> row, int seen, List<List<Integer>> all) {
        if (at == goal) {
            if (left == 0) {
                all.add(new ArrayList<>(row));
            }
            return;
        }
        for (int k : counting(season)) {
            Hour h = hours.get(k);
            int next = h.a == at ? h.b : h.b == at ? h.a : -1;
            if (next < 0 || (seen >> next & 1) == 1 || h.most > left) {
                continue;
            }
            row.add(k);
            rows(next, goal, left - h.most, row, seen | 1 << next, all);
            row.remove(row.size() - 1);
        }
    }

    int bars(int what) {
        boolean isPlace = what >= 10 && what <= 33;
        if (what != 0 && what != 1 && !isPlace) {
            return BAD;
        }
        int k = barring(counting(season));
        if (k < 0) {
            return NONE;
        }
        if (what == 0) {
            return k;
        }
        Hour h = hours.get(k);
        int from = Math.min(h.a, h.b);
        int to = Math.max(h.a, h.b);
        List<List<Integer>> all = new ArrayList<>();
        rows(from, to, longs()[from][to], new ArrayList<>(), 1 << from, all);
        List<Integer> row = all.get(0);
        for (List<Integer> other : all) {
            if (other.size() < row.size()) {
                row = other;
            }
        }
        if (what == 1) {
            return row.size();
        }
        return what - 10 < row.size() ? row.get(what - 10) : NONE;
    }

    int ask(int what) {
        if (what != 0 && what != 1) {
            return BAD;
        }
        if (!canBe()) {
            return STATE;
        }
        Integer[][] d = longs();
        int found = NONE;
        int width = NONE;
        for (int a = 0; a < n; a++) {
            for (int b = a + 1; b < n; b++) {
                boolean isTold = false;
                for (int k : counting(season)) {
                    isTold |= hours.get(k).joins(a, b);
                }
                if (!isTold && d[a][b] != null && d[a][b] - shortOf(a, b) > width) {
                    width = d[a][b] - shortOf(a, b);
                    found = 8 * a + b;
                }
            }
        }
        return what == 0 ? found : width;
    }

    int heaps() {
        Integer[][] d = longs();
        TreeSet<Integer> firsts = new TreeSet<>();
        for (int t = 0; t < n; t++) {
            int first = 0;
            while (d[first][t] == null) {
                first++;
            }
            firsts.add(first);
        }
        return firsts.size();
    }

    // ---- roads

    private List<int[]> roadsOf(Integer[][] d) {
        List<int[]> found = new ArrayList<>();
        for (int a = 0; a < n; a++) {
            for (int b = a + 1; b < n; b++) {
                boolean is = d[a][b] != null;
                for (int t = 0; t < n && is; t++) {
                    is = t == a || t == b || d[a][t] == null || d[a][t] + d[t][b] != d[a][b];
                }
                if (is) {
                    found.add(new int[] {a, b, d[a][b]});
                }
            }
        }
        return found;
    }

    int roads() {
        return roadsOf(longs()).size();
    }

    int road(int k, int what) {
        List<int[]> all = roadsOf(longs());
        return k < 0 || k >= all.size() || what < 0 || what > 2 ? BAD : all.get(k)[what];
    }

    private int fewest(int[] sets, int what) {
        int least = 99;
        int best = 0;
        int rivals = 0;
        for (int set : sets) {
            int size = Integer.bitCount(set);
            if (size < least || size == least && Integer.compareUnsigned(set, best) < 0) {
                best = set;
            }
            rivals = size < least ? 1 : size == least ? rivals + 1 : rivals;
            least = Math.min(least, size);
        }
        return sets.length == 0 ? NONE : new int[] {least, best, rivals}[what];
    }

    int wrong(int what) {
        if (what < 0 || what > 2) {
            return BAD;
        }
        List<Integer> all = counting(season);
        if (all.size() > 12) {
            return STATE;
        }
        List<Integer> good = new ArrayList<>();
        for (int choice = 0; choice < 1 << all.size(); choice++) {
            List<Integer> stay = new ArrayList<>();
            int bits = 0;
            for (int i = 0; i < all.size(); i++) {
                if ((choice >> i & 1) == 1) {
                    bits |= 1 << all.get(i);
                } else {
                    stay.add(all.get(i));
                }
            }
            if (barring(stay) < 0) {
                good.add(bits);
            }
        }
        return fewest(good.stream().mapToInt(i -> i).toArray(), what);
    }

    int writers(int what) {
        if (what < 0 || what > 2) {
            return BAD;
        }
        List<Integer> good = new ArrayList<>();
        for (int set = 0; set < 64; set++) {
            List<Integer> stay = new ArrayList<>();
            for (int k : counting(season)) {
                if ((set >> hours.get(k).writer & 1) == 0) {
                    stay.add(k);
                }
            }
            if (barring(stay) < 0) {
                good.add(set);
            }
        }
        return fewest(good.stream().mapToInt(i -> i).toArray(), what);
    }

    int part(int w, int v, int what) {
        if (w < 0 || w > 5 || v < 0 || v > 5 || w == v || what < 0 || what > 4) {
            return BAD;
        }
        int pairs = 0;
        int[] low = {0, 1};
        int[] high = {1, 0};
        for (int k = 0; k < hours.size(); k++) {
            for (int m = 0; m < hours.size(); m++) {
                Hour h = hours.get(k);
                Hour g = hours.get(m);
                if (h.writer != w || g.writer != v || !h.joins(g.a, g.b) || h.season != g.season
                    || doubted.contains(k) || doubted.contains(m)) {
                    continue;
                }
                pairs++;
                if ((long) h.least * low[1] > (long) low[0] * g.most) {
                    low = new int[] {h.least, g.most};
                }
                if ((long) h.most * high[1] < (long) high[0] * g.least) {
                    high = new int[] {h.most, g.least};
                }
            }
        }
        if (what == 4) {
            return pairs;
        }
        if (pairs == 0) {
            return NONE;
        }
        int[] end = what < 2 ? low : high;
        int d = Math.min(end[0], end[1]);
        while (end[0] % d != 0 || end[1] % d != 0) {
            d--;
        }
        return end[what % 2] / d;
    }

    // ---- trees, corners, winter

    int tree(int what) {
        if (what != 0 && what != 1) {
            return BAD;
        }
        if (heaps() > 1) {
            return STATE;
        }
        Integer[][] m = longs();
        int bar = NONE;
        for (int four = 8 * 8 * 8 * 8 - 1; four >= 0; four--) {
            int a = four >> 9;
            int b = four >> 6 & 7;
            int c = four >> 3 & 7;
            int d = four & 7;
            if (a < b && b < c && c < d && d < n) {
                int[] s = {m[a][b] + m[c][d], m[a][c] + m[b][d], m[a][d] + m[b][c]};
                Arrays.sort(s);
                if (s[1] != s[2]) {
                    bar = four;
                }
            }
        }
        return what == 1 ? bar : bar == NONE ? 1 : 0;
    }

    /** How far from the corner, null if the three set none. */
    private Integer[] corner(Integer[][] d, int a, int b, int c) {
        int[] twice = {d[a][b] + d[a][c] - d[b][c], d[a][b] + d[b][c] - d[a][c],
            d[a][c] + d[b][c] - d[a][b]};
        int[] three = {a, b, c};
        Integer[] far = new Integer[n];
        for (int i = 0; i < 3; i++) {
            if (twice[i] < 0 || (twice[i] & 1) == 1) {
                return null;
            }
            far[three[i]] = twice[i] / 2;
        }
        for (int t = 0; t < n; t++) {
            if (t == a || t == b || t == c || d[a][t] == null) {
                continue;
            }
            int most = 0;
            for (int s = 0; s < n; s++) {
                if (s == a || s == b || s == c || s < t && d[a][s] != null) {
                    most = Math.max(most, d[s][t] - far[s]);
                }
            }
            far[t] = most;
        }
        return far;
    }

    private int[] worth(Integer[][] d, Integer[] far) {
        int roads = 0;
        TreeSet<Integer> ends = new TreeSet<>();
        for (int[] r : roadsOf(d)) {
            if (far[r[0]] != null && far[r[1]] != null && far[r[0]] + far[r[1]] == r[2]) {
                roads++;
                ends.add(r[0]);
                ends.add(r[1]);
            }
        }
        return new int[] {roads - ends.size(), roads};
    }

    int corner(int a, int b, int c, int what) {
        boolean isAsked = what == 0 || what == 1 || what >= 10 && what < 10 + n;
        if (!pair(a, b) || !pair(b, c) || a > b || b > c || !isAsked) {
            return BAD;
        }
        Integer[][] d = longs();
        if (d[a][b] == null || d[b][c] == null) {
            return STATE;
        }
        Integer[] far = corner(d, a, b, c);
        if (far == null) {
            return NONE;
        }
        if (what >= 10) {
            return far[what - 10] == null ? NONE : far[what - 10];
        }
        return worth(d, far)[what];
    }

    int best(int what) {
        if (what != 0 && what != 1) {
            return BAD;
        }
        int gain = NONE;
        int three = NONE;
        for (int abc = 511; abc >= 0; abc--) {
            int a = abc >> 6;
            int b = abc >> 3 & 7;
            int c = abc & 7;
            int g = corner(a, b, c, 1) < 0 ? NONE : corner(a, b, c, 0);
            if (g > 0 && g >= gain) {
                gain = g;
                three = abc;
            }
        }
        return what == 0 ? gain : three;
    }

    int shut(int what) {
        if (what != 0 && what != 1) {
            return BAD;
        }
        List<Integer> summer = counting(1);
        List<int[]> roads = roadsOf(longs(summer));
        if (barring(summer) >= 0 || roads.size() > 12) {
            return STATE;
        }
        List<Integer> good = new ArrayList<>();
        for (int set = 0; set < 1 << roads.size(); set++) {
            Integer[][] steps = new Integer[n][n];
            for (int i = 0; i < roads.size(); i++) {
                if ((set >> i & 1) == 0) {
                    int[] r = roads.get(i);
                    steps[r[0]][r[1]] = r[2];
                    steps[r[1]][r[0]] = r[2];
                }
            }
            Integer[][] d = sums(steps);
            boolean does = true;
            for (int k = 0; k < hours.size(); k++) {
                Hour h = hours.get(k);
                if (h.season == 2 && !doubted.contains(k)) {
                    Integer m = d[h.a][h.b];
                    does &= m != null && m >= h.least && m <= h.most;
                }
            }
            if (does) {
                good.add(set);
            }
        }
        return fewest(good.stream().mapToInt(i -> i).toArray(), what);
    }

    // ---- nets by hand

    int net(int a, int b, int v) {
        if (!pair(a, b) || v < 0 || v > 9999) {
            return BAD;
        }
        int was = net[a][b] == null ? 0 : net[a][b];
        net[a][b] = v == 0 ? null : v;
        net[b][a] = net[a][b];
        return was;
    }

    int way(int a, int b) {
        if (a < 0 || a >= n || b < 0 || b >= n) {
            return BAD;
        }
        Integer d = sums(net)[a][b];
        return d == null ? NONE : d;
    }

    int judge(int what) {
        Integer[][] d = sums(net);
        int not = 0;
        int miss = 0;
        int first = NONE;
        for (int k : counting(season)) {
            Hour h = hours.get(k);
            Integer m = d[h.a][h.b];
            if (m == null || m < h.least || m > h.most) {
                not++;
                first = first == NONE ? k : first;
            }
            if (m != null && m < h.least) {
                miss = Math.max(miss, h.least - m);
            }
            if (m != null && m > h.most) {
                miss = Math.max(miss, m - h.most);
            }
        }
        switch (what) {
            case 0: return not;
            case 1: return miss;
            case 2: return first;
            case 3: return needless();
            default: return BAD;
        }
    }

    private int needless() {
        Integer[][] left = new Integer[8][];
        for (int a = 0; a < 8; a++) {
            left[a] = net[a].clone();
        }
        Integer[][] before = sums(net);
        int gone = 0;
        for (int a = 0; a < n; a++) {
            for (int b = a + 1; b < n; b++) {
                Integer road = left[a][b];
                if (road == null) {
                    continue;
                }
                left[a][b] = null;
                left[b][a] = null;
                if (Arrays.deepEquals(before, sums(left))) {
                    gone++;
                } else {
                    left[a][b] = road;
                    left[b][a] = road;
                }
            }
        }
        return gone;
    }

    int draw() {
        if (!canBe()) {
            return STATE;
        }
        net = new Integer[8][8];
        List<int[]> all = roadsOf(longs());
        for (int[] r : all) {
            net[r[0]][r[1]] = r[2];
            net[r[1]][r[0]] = r[2];
        }
        return all.size();
    }

    // ---- sheets: here the machine does find the faults

    int sheet(int k, int lane, int size) {
        if (k < 0 || k > 3 || lane < 0 || lane > 2 || size > 40) {
            return BAD;
        }
        try {
            sheets[k] = lane == 0 ? new byte[size] : lane == 1 ? (Object) new short[size] : new int[size];
            return 1;
        } catch (NegativeArraySizeException e) {
            return -14;
        }
    }

    int lay(int k, int i, int v) {
        if (k < 0 || k > 3) {
            return BAD;
        }
        try {
            Object sheet = sheets[k];
            sheet.hashCode();
            if (sheet instanceof byte[] cells) {
                cells[i] = (byte) v;
            } else if (sheet instanceof short[] cells) {
                cells[i] = (short) v;
            } else {
                ((int[]) sheet)[i] = v;
            }
            return 1;
        } catch (NullPointerException e) {
            return -11;
        } catch (ArrayIndexOutOfBoundsException e) {
            return -12;
        }
    }

    int read(int k, int lane, int f) {
        if (k < 0 || k > 3 || lane < 0 || lane > 2) {
            return BAD;
        }
        List<Integer> taken = new ArrayList<>();
        try {
            Object sheet = sheets[k];
            sheet.hashCode();
            for (int i = 0; i < n * (n - 1) / 2; i++) {
                int v = lane == 0 ? ((byte[]) sheet)[f + i] : lane == 1 ? ((short[]) sheet)[f + i]
                    : ((int[]) sheet)[f + i];
                if (v < 0 || v > 9999) {
                    return -20 - i;
                }
                taken.add(v);
            }
        } catch (NullPointerException e) {
            return -11;
        } catch (ArrayIndexOutOfBoundsException e) {
            return -12;
        } catch (ClassCastException e) {
            return -13;
        }
        int at = 0;
        for (int a = 0; a < n; a++) {
            for (int b = a + 1; b < n; b++) {
                net(a, b, taken.get(at));
                at++;
            }
        }
        return count(6);
    }

    int count(int what) {
        TreeSet<Integer> writers = new TreeSet<>();
        for (Hour h : hours) {
            writers.add(h.writer);
        }
        int roads = 0;
        for (Integer[] row : net) {
            for (Integer road : row) {
                roads += road == null ? 0 : 1;
            }
        }
        int cells = sheets[0] == null ? NONE : java.lang.reflect.Array.getLength(sheets[0]);
        int[] all = {n, hours.size(), counting(season).size(), doubted.size(), writers.size(),
            season, roads / 2, tape.length(), cells};
        return what < 0 || what >= all.length ? BAD : all[what];
    }
}
