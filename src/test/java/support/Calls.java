import java.util.Random;

/** Random texts and random calls, made on the class and on the model alike. */
final class Calls {
    static final int KINDS = 33;
    private static final int[] EDGES = {Integer.MIN_VALUE, Integer.MIN_VALUE + 1, -11, -10, -2, -1, 0, 1, 2,
        3, 7, 8, 9, 10, 11, 17, 18, 23, 24, 27, 28, 39, 40, 41, 240, 241, 255, 9999, 10000, 32768, 65536,
        Integer.MAX_VALUE - 9, Integer.MAX_VALUE - 1, Integer.MAX_VALUE};

    private final Random random;
    String latest = "";

    Calls(long seed) {
        random = new Random(seed);
    }

    int below(int n) {
        return random.nextInt(n);
    }

    /** Mostly one of the first few numbers, now and then one that is far out. */
    int number(int usual) {
        return below(12) == 0 ? EDGES[below(EDGES.length)] : below(usual);
    }

    /** Lines that a hidden land tells, more or less: so that many of them can be. */
    String textOfLand(int n, int lines, int spread, int slip) {
        int[] x = new int[n];
        int[] y = new int[n];
        for (int t = 0; t < n; t++) {
            x[t] = below(9);
            y[t] = below(9);
        }
        StringBuilder s = new StringBuilder();
        for (int i = 0; i < lines; i++) {
            int a = below(n);
            int b = (a + 1 + below(n - 1)) % n;
            int true_ = 1 + Math.abs(x[a] - x[b]) + Math.abs(y[a] - y[b]);
            int least = Math.max(1, true_ - below(spread + 1) + (below(10) < slip ? below(5) : 0));
            int most = Math.max(least, true_ + below(spread + 1));
            String line = line(a, b, least, most);
            if (s.length() + line.length() > 240) {
                break;
            }
            s.append(line);
        }
        return s.toString();
    }

    /** Hours that are short and many, so that rows of several bar others: promises 14, 19, 20. */
    String textOfQuarrels(int n, int lines) {
        StringBuilder s = new StringBuilder();
        for (int t = 1; t < n && t <= lines; t++) {
            s.append(plain(t - 1, t, 1 + below(2), 0));
        }
        for (int i = n; i <= lines; i++) {
            int a = below(n);
            int b = (a + 1 + below(n - 1)) % n;
            s.append(plain(a, b, 1 + below(9), below(3)));
        }
        return cut(s);
    }

    /** All pairs of a star, now and then one of them less: corners that gain, promises 22 to 24. */
    String textOfStar(int n) {
        int[] ray = new int[n];
        for (int t = 0; t < n; t++) {
            ray[t] = 1 + below(3);
        }
        int lessOnes = below(3);
        StringBuilder s = new StringBuilder();
        for (int a = 0; a < n; a++) {
            for (int b = a + 1; b < n; b++) {
                int minutes = ray[a] + ray[b] - (below(8) < lessOnes ? 1 : 0);
                s.append((char) ('a' + a)).append(' ').append((char) ('a' + b)).append(minutes).append(';');
            }
        }
        return cut(s);
    }

    /** Summer's roads, and winter's ways with some of them shut: promise 25. */
    String textOfWinter(int n, int roads) {
        int[][] summer = new int[n][n];
        int[][] winter = new int[n][n];
        StringBuilder s = new StringBuilder();
        for (int i = 0; i < roads; i++) {
            int a = i + 1 < n ? i : below(n);
            int b = i + 1 < n ? i + 1 : (a + 1 + below(n - 1)) % n;
            int minutes = 2 + below(6);
            if (summer[a][b] == 0) {
                summer[a][b] = summer[b][a] = minutes;
                winter[a][b] = winter[b][a] = below(4) == 0 ? 0 : minutes;
                s.append(plain(a, b, minutes, 0));
            }
        }
        for (int over = 0; over < n; over++) {
            for (int a = 0; a < n; a++) {
                for (int b = 0; b < n; b++) {
                    int sum = winter[a][over] + winter[over][b];
                    if (a != b && winter[a][over] > 0 && winter[over][b] > 0
                        && (winter[a][b] == 0 || sum < winter[a][b])) {
                        winter[a][b] = sum;
                    }
                }
            }
        }
        for (int i = 0; i < 6; i++) {
            int a = below(n);
            int b = below(n);
            if (winter[a][b] > 0) {
                s.append(plain(a, b, winter[a][b], below(2)).replace(";", " winter;"));
            }
        }
        return cut(s);
    }

    private String plain(int a, int b, int least, int more) {
        String to = more == 0 ? "" : "to" + (least + more);
        String by = below(2) == 0 ? "" : "by" + below(6);
        return (char) ('a' + a) + " " + (char) ('a' + b) + least + to + by + ";";
    }

    private static String cut(StringBuilder s) {
        int end = s.length() <= 240 ? s.length() : s.lastIndexOf(";", 239) + 1;
        return s.substring(0, end);
    }

    private String line(int a, int b, int least, int most) {
        StringBuilder s = new StringBuilder();
        s.append((char) ('a' + a)).append(' ').append((char) ('a' + b)).append(least);
        if (most != least) {
            s.append("to").append(most);
        }
        if (below(3) != 0) {
            s.append("by").append(below(6));
        }
        int when = below(6);
        s.append(when == 0 ? " summer" : when == 1 ? " winter" : "");
        return s.append(';').toString();
    }

    /** Pieces in any order: nearly always a fault, at many places. */
    String textOfPieces(int pieces) {
        String[] all = {"a", "b", "c", "d", "h", "i", "z", " ", " ", " ", ";", ";", "to", "by", "summer",
            "winter", "0", "1", "5", "6", "7", "10", "9999", "00001", "0001", "12345", ",", "A", "\t", "\u00e9"};
        StringBuilder s = new StringBuilder();
        for (int i = 0; i < pieces; i++) {
            if (below(3) == 0) {
                s.append(line(below(5), below(5), below(9), below(9)));
            }
            s.append(all[below(all.length)]);
        }
        return s.length() > 240 ? s.substring(0, 240) : s.toString();
    }

    /** A good text with one byte changed. */
    String spoilt(String text) {
        if (text.isEmpty()) {
            return text;
        }
        String signs = " ;abhz019,tbsw";
        StringBuilder s = new StringBuilder(text);
        s.setCharAt(below(text.length()), signs.charAt(below(signs.length())));
        return s.toString();
    }

    static void feed(Model m, String text) {
        for (int at = 0; at < text.length(); at += 8) {
            long eight = 0;
            for (int i = 0; i < 8; i++) {
                eight = eight << 8 | (at + i < text.length() ? text.charAt(at + i) & 255 : 32);
            }
            m.feed(eight);
        }
        m.end(text.length());
    }

    /** Makes one call of a kind on both, the same; whether they answer alike. */
    boolean areAlike(int kind, HourRoads x, Model m) {
        int[] both = call(kind, x, m);
        return both[0] == both[1];
    }

    int[] call(int kind, HourRoads x, Model m) {
        int n = m.count(0);
        int a = number(n);
        int b = number(n);
        int c = number(n);
        boolean is = below(2) == 0;
        switch (kind) {
            case 0: return both("count", number(9), x::count, m::count);
            case 1: {
                int v = below(4) != 0 ? n : number(10);
                return both("towns", v, x::towns, m::towns);
            }
            case 2: {
                long v = random.nextLong();
                return told("feed(" + v + ")", x.feed(v), m.feed(v));
            }
            case 3: return both("end", number(9), x::end, m::end);
            case 4: return told("hours()", x.hours(), m.hours());
            case 5: return told("fault()", x.fault(), m.fault());
            case 6: {
                int k = number(24);
                int what = number(8);
                return told("hour(" + k + ", " + what + ")", x.hour(k, what), m.hour(k, what));
            }
            case 7: {
                int k = number(24);
                return told("doubt(" + k + ", " + is + ")", x.doubt(k, is), m.doubt(k, is));
            }
            case 8: return both("season", number(4), x::season, m::season);
            case 9: return told("can()", x.can(), m.can());
            case 10: return told("longest(" + a + ", " + b + ")", x.longest(a, b), m.longest(a, b));
            case 11: return told("shortest(" + a + ", " + b + ")", x.shortest(a, b), m.shortest(a, b));
            case 12: return told("must(" + a + ", " + b + ")", x.must(a, b), m.must(a, b));
            case 13: return both("bars", below(2) == 0 ? number(3) : 10 + number(below(4) == 0 ? 26 : 8), x::bars, m::bars);
            case 14: return both("ask", number(3), x::ask, m::ask);
            case 15: return told("heaps()", x.heaps(), m.heaps());
            case 16: return told("roads()", x.roads(), m.roads());
            default: return callMore(kind, x, m, a, b, c, is);
        }
    }

    private int[] callMore(int kind, HourRoads x, Model m, int a, int b, int c, boolean is) {
        int n = m.count(0);
        switch (kind) {
            case 17: {
                int k = number(12);
                int what = number(4);
                return told("road(" + k + ", " + what + ")", x.road(k, what), m.road(k, what));
            }
            case 18: return both("wrong", number(4), x::wrong, m::wrong);
            case 19: return both("writers", number(4), x::writers, m::writers);
            case 20: {
                int w = number(6);
                int v = number(6);
                int what = number(6);
                return told("part(" + w + ", " + v + ", " + what + ")", x.part(w, v, what), m.part(w, v, what));
            }
            case 21: return both("tree", number(3), x::tree, m::tree);
            case 22: {
                int low = is ? Math.min(a, Math.min(b, c)) : a;
                int high = is ? Math.max(a, Math.max(b, c)) : c;
                int mid = is ? a ^ b ^ c ^ low ^ high : b;
                int what = below(2) == 0 ? number(3) : 10 + number(n + 1);
                return told("corner(" + low + ", " + mid + ", " + high + ", " + what + ")",
                    x.corner(low, mid, high, what), m.corner(low, mid, high, what));
            }
            case 23: return both("best", number(3), x::best, m::best);
            case 24: return both("shut", number(3), x::shut, m::shut);
            case 25: {
                int v = below(4) == 0 ? 0 : number(20);
                return told("net(" + a + ", " + b + ", " + v + ")", x.net(a, b, v), m.net(a, b, v));
            }
            case 26: return told("way(" + a + ", " + b + ")", x.way(a, b), m.way(a, b));
            case 27: return both("judge", number(5), x::judge, m::judge);
            case 28: return told("draw()", x.draw(), m.draw());
            default: return callOfSheets(kind, x, m);
        }
    }

    private int[] callOfSheets(int kind, HourRoads x, Model m) {
        int k = number(4);
        int lane = number(3);
        int cell = number(40);
        switch (kind) {
            case 29: {
                int size = below(3) == 0 ? number(42) : 28 + below(13);
                return told("sheet(" + k + ", " + lane + ", " + size + ")", x.sheet(k, lane, size),
                    m.sheet(k, lane, size));
            }
            case 30:
            case 31: {
                int v = below(9) == 0 ? random.nextInt() : number(100);
                return told("lay(" + k + ", " + cell + ", " + v + ")", x.lay(k, cell, v), m.lay(k, cell, v));
            }
            default: {
                int f = number(8);
                return told("read(" + k + ", " + lane + ", " + f + ")", x.read(k, lane, f), m.read(k, lane, f));
            }
        }
    }

    private interface OneNumber {
        int of(int v);
    }

    private int[] both(String name, int v, OneNumber x, OneNumber m) {
        return told(name + "(" + v + ")", x.of(v), m.of(v));
    }

    private int[] told(String call, int got, int want) {
        latest = call;
        return new int[] {got, want};
    }
}
