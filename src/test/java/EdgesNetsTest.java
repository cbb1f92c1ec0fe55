/** The edges that the document names for nets by hand, sheets and counts: promises 26 to 33. */
public final class EdgesNetsTest {
    private static final int BAD = HourRoads.BAD;
    private static final int STATE = HourRoads.STATE;
    private static final int NONE = HourRoads.NONE;
    private static final int MIN = Integer.MIN_VALUE;
    private static final int MAX = Integer.MAX_VALUE;

    private EdgesNetsTest() {
    }

    public static void main(String[] args) {
        net();
        netRefused();
        way();
        judgeWithin();
        judgeNeedless();
        judgeRefused();
        draw();
        drawRefused();
        sheet();
        sheetRefused();
        lay();
        layRefused();
        readPairs();
        readBounds();
        readRefused();
        readFirstMet();
        counts();
        countRefused();
        Check.end("EdgesNetsTest");
    }

    private static HourRoads ofTowns(int n) {
        HourRoads x = new HourRoads();
        x.towns(n);
        return x;
    }

    // ---- 26, 27

    private static void net() {
        HourRoads x = ofTowns(8);
        int roads = 0;
        for (int a = 0; a < 8; a++) {
            for (int b = a + 1; b < 8; b++) {
                Check.due("26: none at first", x.net(a, b, 9999), 0);
                roads++;
                Check.due("26: so many roads", x.count(6), roads);
                Check.due("26: either way round", x.net(b, a, 1), 9999);
                Check.due("26: one road of two TOWNS", x.count(6), roads);
                Check.due("26: what it was", x.net(a, b, 1), 1);
            }
        }
        Check.due("26: the last becomes none", x.net(7, 6, 0), 1);
        Check.due("26: one less", x.count(6), 27);
        Check.due("26: none again", x.net(6, 7, 0), 0);
        Check.due("26: no HOURS by it", x.count(1), 0);
    }

    private static void netRefused() {
        int[][] none = {{0, 0, 0}, {0, 0, 1}, {1, 1, 9999}, {-1, 0, 1}, {0, -1, 1}, {0, 8, 1}, {8, 0, 1}, {MIN, 0, 0},
            {0, MAX, 0}, {0, 1, -1}, {0, 1, 10000}, {0, 1, MIN}, {0, 1, MAX}, {0, 1, 65536}, {-1, -1, -1}};
        for (int[] p : none) {
            Towns.refusedEverywhere("26: net(" + p[0] + ", " + p[1] + ", " + p[2] + ")", BAD,
                x -> x.net(p[0], p[1], p[2]));
        }
        for (int n = 2; n <= 8; n++) {
            int beyond = n;
            Twins.refused("26: no TOWN " + n, () -> ofTowns(beyond), BAD, x -> x.net(0, beyond, 5));
            Twins.refused("26: nor as the first", () -> ofTowns(beyond), BAD, x -> x.net(beyond, 0, 5));
            Check.due("26: the last of " + n, ofTowns(n).net(n - 1, 0, 5), 0);
        }
    }

    private static void way() {
        HourRoads x = ofTowns(8);
        for (int t = 1; t < 8; t++) {
            Check.due("27: no way yet", x.way(0, t), NONE);
            x.net(t, t - 1, 9999);
            Check.due("27: the sum of " + t, x.way(0, t), 9999 * t);
            Check.due("27: and back", x.way(t, 0), 9999 * t);
        }
        x.net(0, 7, 1);
        Check.due("27: the least sum", x.way(0, 7), 1);
        Check.due("27: the other way round", x.way(0, 4), 1 + 3 * 9999);
        x.net(0, 7, 0);
        Check.due("27: as it was", x.way(0, 7), 7 * 9999);
        HourRoads y = ofTowns(3);
        y.net(0, 1, 2);
        y.net(1, 2, 3);
        for (int v = 4; v <= 6; v++) {
            y.net(0, 2, v);
            Check.due("27: beside a road of " + v, y.way(2, 0), Math.min(v, 5));
        }
        for (int[] p : new int[][] {{-1, 0}, {0, -1}, {8, 0}, {0, 8}, {-1, -1}, {8, 8}, {MIN, 0}, {0, MAX}, {MAX, MAX}}) {
            Towns.refusedEverywhere("27: way(" + p[0] + ", " + p[1] + ")", BAD, t -> t.way(p[0], p[1]));
        }
        for (int n = 2; n <= 8; n++) {
            Check.due("27: the last of " + n, ofTowns(n).way(0, n - 1), NONE);
            Check.due("27: one beyond " + n, ofTowns(n).way(0, n), BAD);
            Check.due("27: and to itself", ofTowns(n).way(n, n), BAD);
        }
        Twins.refused("27: no way", Towns::rich, NONE, t -> t.way(0, 2));
        Check.due("27: the roads there are", Towns.rich().way(0, 4), 9999 + 17);
        Check.due("27: without a road to itself", ofTowns(2).way(1, 1), 0);
    }

    // ---- 28

    private static void judges(String when, HourRoads x, int not, int miss, int first) {
        Check.due("28: how many are not within, " + when, x.judge(0), not);
        Check.due("28: the greatest miss, " + when, x.judge(1), miss);
        Check.due("28: the first, " + when, x.judge(2), first);
    }

    private static void judgeWithin() {
        HourRoads x = Check.told(4, "a b 5 to 7;");
        judges("no way", x, 1, 0, 0);
        int[][] due = {{1, 1, 4, 0}, {4, 1, 1, 0}, {5, 0, 0, NONE}, {6, 0, 0, NONE}, {7, 0, 0, NONE}, {8, 1, 1, 0},
            {9999, 1, 9992, 0}};
        for (int[] d : due) {
            x.net(0, 1, d[0]);
            judges("a road of " + d[0], x, d[1], d[2], d[3]);
        }
        judges("no HOURS", new HourRoads(), 0, 0, NONE);
        HourRoads all = Check.told(2, "a b1;".repeat(24));
        judges("24 without a way", all, 24, 0, 0);
        all.net(0, 1, 1);
        judges("24 within", all, 0, 0, NONE);
        all.net(0, 1, 2);
        judges("24 that miss by one", all, 24, 1, 0);
        for (int k = 0; k < 23; k++) {
            all.doubt(k, true);
        }
        judges("the last of 24", all, 1, 1, 23);
        all.doubt(23, true);
        judges("all are DOUBTED", all, 0, 0, NONE);
        HourRoads far = Check.told(8, "a h 1;a b 9999;");
        for (int t = 1; t < 8; t++) {
            far.net(t - 1, t, 9999);
        }
        judges("the longest way", far, 1, 7 * 9999 - 1, 0);
        HourRoads some = Check.told(4, "a b 5;c d 9;a b 8 winter;a b 3;");
        some.net(0, 1, 5);
        judges("one without a way, one that misses", some, 2, 2, 1);
        some.season(2);
        judges("in winter", some, 3, 3, 1);
        some.net(2, 3, 20);
        judges("all have a way", some, 3, 11, 1);
    }

    private static void needless(String when, int due, int n, int... roads) {
        HourRoads x = ofTowns(n);
        int at = 0;
        int had = 0;
        for (int a = 0; a < n; a++) {
            for (int b = a + 1; b < n; b++) {
                x.net(a, b, roads[at]);
                had += roads[at] == 0 ? 0 : 1;
                at++;
            }
        }
        Check.due("28: roads that can go, " + when, x.judge(3), due);
        Check.due("28: none has gone, " + when, x.count(6), had);
    }

    private static void judgeNeedless() {
        needless("none", 0, 2, 0);
        needless("the only one", 0, 2, 9999);
        needless("less than two others", 0, 3, 2, 4, 3);
        needless("as long as two others", 1, 3, 2, 5, 3);
        needless("longer than two others", 1, 3, 2, 6, 3);
        needless("the first pair", 1, 3, 5, 2, 3);
        needless("the last pair", 1, 3, 2, 3, 5);
        needless("all alike", 0, 3, 2, 2, 2);
        needless("two that need each other's others", 2, 4, 1, 2, 0, 1, 2, 1);
        needless("a row", 3, 4, 1, 2, 3, 1, 2, 1);
        needless("a square with both ways across", 2, 4, 1, 2, 1, 1, 2, 1);
        needless("over three others", 1, 4, 1, 0, 3, 1, 0, 1);
        needless("one less than over three others", 0, 4, 1, 0, 2, 1, 0, 1);
        int[] star = new int[28];
        for (int i = 0; i < 28; i++) {
            star[i] = i < 7 ? 1 : 2;
        }
        needless("all but a star of eight", 21, 8, star);
    }

    private static void judgeRefused() {
        for (int what : new int[] {MIN, -1, 4, 5, 10, MAX}) {
            Towns.refusedEverywhere("28: judge(" + what + ")", BAD, x -> x.judge(what));
        }
        Twins.refused("28: none is without", HourRoads::new, NONE, x -> x.judge(2));
        for (int what = 0; what < 4; what++) {
            int asked = what;
            Twins.alike("28: judge(" + what + ") changes nothing", Towns::rich, () -> {
                HourRoads x = Towns.rich();
                x.judge(asked);
                return x;
            });
        }
    }

    // ---- 29

    private static void draw() {
        HourRoads x = ofTowns(8);
        StringBuilder text = new StringBuilder();
        for (int i = 0; i < 24; i++) {
            text.append("abcdefg".charAt(i / 4)).append(' ').append("bcdefgh".charAt(Math.min(6, i / 4 + i % 4)));
            text.append(9).append(';');
        }
        Check.tell(x, text.toString());
        x.net(0, 7, 5);
        Check.due("29: how many", x.draw(), x.roads());
        Check.due("29: what was is gone", x.net(0, 7, 0), 0);
        Check.due("29: so many roads", x.count(6), x.roads());
        for (int k = 0; k < x.roads(); k++) {
            Check.due("29: ROAD " + k, x.net(x.road(k, 0), x.road(k, 1), 9), x.road(k, 2));
        }
        HourRoads none = Towns.rich();
        none.end(0);
        none.hours();
        Check.due("29: no HOURS", none.draw(), 0);
        Check.due("29: no roads", none.count(6), 0);
        HourRoads far = Check.told(2, "a b 3 to 9999;");
        Check.due("29: one", far.draw(), 1);
        Check.due("29: of MOST", far.way(0, 1), 9999);
        HourRoads seasons = Check.told(3, "a b 3 summer;b c 4 winter;a c 5;");
        seasons.draw();
        Check.due("29: summer's", seasons.way(0, 1) * 100 + seasons.way(1, 2), 308);
        seasons.season(2);
        seasons.draw();
        Check.due("29: winter's", seasons.way(0, 1) * 100 + seasons.way(1, 2), 904);
        seasons.doubt(2, true);
        Check.due("29: one is DOUBTED", seasons.draw(), 1);
    }

    private static void drawRefused() {
        Twins.refused("29: it can not be", Towns::quarrel, STATE, HourRoads::draw);
        HourRoads x = Check.told(2, "a b 3 summer;a b 4;");
        Check.due("29: summer can not be", x.draw(), STATE);
        x.season(2);
        Check.due("29: winter can", x.draw(), 1);
    }

    // ---- 30, 31

    private static void sheet() {
        HourRoads x = new HourRoads();
        for (int k = 0; k < 4; k++) {
            for (int lane = 0; lane < 3; lane++) {
                for (int n : new int[] {0, 1, 39, 40}) {
                    Check.due("30: sheet(" + k + ", " + lane + ", " + n + ")", x.sheet(k, lane, n), 1);
                    Check.due("30: its last CELL", x.lay(k, n - 1, 1), n == 0 ? -12 : 1);
                    Check.due("30: no CELL beyond", x.lay(k, n, 1), -12);
                    if (k == 0) {
                        Check.due("30: how many CELLS", x.count(8), n);
                    }
                }
            }
        }
        HourRoads y = ofTowns(2);
        y.sheet(3, 0, 40);
        for (int i = 0; i < 40; i++) {
            y.lay(3, i, 7);
        }
        y.sheet(3, 2, 40);
        for (int i = 0; i < 40; i++) {
            Check.due("30: a new row, CELL " + i + " is 0", y.read(3, 2, i), 0);
        }
        Check.due("30: of the new lane alone", y.read(3, 0, 0), -13);
        y.lay(3, 39, 7);
        y.sheet(3, 2, 39);
        y.sheet(3, 2, 40);
        Check.due("30: shorter, then longer: 0", y.read(3, 2, 39), 0);
        y.sheet(1, 1, 3);
        y.lay(1, 1, 8);
        y.sheet(2, 1, 3);
        y.sheet(0, 1, 3);
        Check.due("30: another SHEET stays", y.read(1, 1, 1), 1);
    }

    private static void sheetRefused() {
        int[][] none = {{-1, 0, 1}, {4, 0, 1}, {MIN, 0, 1}, {MAX, 0, 1}, {0, -1, 1}, {0, 3, 1}, {0, MIN, 0}, {0, MAX, 0},
            {0, 0, 41}, {3, 2, 42}, {0, 0, MAX}, {4, 0, -1}, {-1, 0, -1}, {0, 3, -1}, {0, -1, -1}, {4, 3, MIN}};
        for (int[] p : none) {
            Towns.refusedEverywhere("30: sheet(" + p[0] + ", " + p[1] + ", " + p[2] + ")", BAD,
                x -> x.sheet(p[0], p[1], p[2]));
        }
        for (int n : new int[] {-1, -2, -40, MIN}) {
            for (int k = 0; k < 4; k++) {
                int sheet = k;
                Towns.refusedEverywhere("30: SIZE " + n + " of SHEET " + k, -14, x -> x.sheet(sheet, 2 - sheet % 3, n));
            }
        }
    }

    /** What a CELL becomes, by a road read of it; out of 0 to 9999 it is refused. */
    private static void lays(int lane, int v, int due) {
        HourRoads x = ofTowns(2);
        x.sheet(0, lane, 3);
        Check.due("31: lay of " + v, x.lay(0, 1, v), 1);
        int read = x.read(0, lane, 1);
        Check.due("31: lane " + lane + ", the lowest bits of " + v, read < 0 ? read : x.net(0, 1, 0), due);
        Check.due("31: the CELL ahead stays", x.read(0, lane, 0), 0);
        Check.due("31: the CELL behind stays", x.read(0, lane, 2), 0);
    }

    private static void lay() {
        int[][] bytes = {{0, 0}, {1, 1}, {127, 127}, {128, -20}, {255, -20}, {256, 0}, {257, 1}, {383, 127}, {384, -20},
            {-1, -20}, {-128, -20}, {-129, 127}, {-256, 0}, {MIN, 0}, {MAX, -20}, {9999, 15}, {10000, 16}};
        int[][] shorts = {{0, 0}, {1, 1}, {128, 128}, {9999, 9999}, {10000, -20}, {32767, -20}, {32768, -20},
            {65535, -20}, {65536, 0}, {65537, 1}, {65536 + 9999, 9999}, {65536 + 10000, -20}, {-1, -20}, {-32769, -20},
            {-65536, 0}, {-65536 + 9999, 9999}, {MIN, 0}, {MAX, -20}};
        int[][] ints = {{0, 0}, {1, 1}, {128, 128}, {9999, 9999}, {10000, -20}, {32768, -20}, {65536, -20}, {65537, -20},
            {-1, -20}, {MIN, -20}, {MAX, -20}};
        int[][][] lanes = {bytes, shorts, ints};
        for (int lane = 0; lane < 3; lane++) {
            for (int[] d : lanes[lane]) {
                lays(lane, d[0], d[1]);
            }
        }
        HourRoads x = ofTowns(2);
        for (int k = 0; k < 4; k++) {
            x.sheet(k, 2, 40);
            Check.due("31: the first CELL", x.lay(k, 0, 100 + k), 1);
            Check.due("31: the last CELL", x.lay(k, 39, 200 + k), 1);
        }
        for (int k = 0; k < 4; k++) {
            x.read(k, 2, 0);
            Check.due("31: the first of SHEET " + k, x.way(0, 1), 100 + k);
            x.read(k, 2, 39);
            Check.due("31: the last of SHEET " + k, x.way(0, 1), 200 + k);
        }
    }

    private static void layRefused() {
        for (int k : new int[] {MIN, -1, 4, 5, MAX}) {
            Towns.refusedEverywhere("31: lay(" + k + ", 0, 1)", BAD, x -> x.lay(k, 0, 1));
            Towns.refusedEverywhere("31: lay(" + k + ", -1, 1)", BAD, x -> x.lay(k, -1, 1));
        }
        for (int i : new int[] {MIN, -1, 0, 40, MAX}) {
            Twins.refused("31: NULL, CELL " + i, Towns::rich, -11, x -> x.lay(3, i, 1));
            Twins.refused("31: NULL in a new object, CELL " + i, HourRoads::new, -11, x -> x.lay(0, i, 1));
        }
        for (int i : new int[] {MIN, -1, 12, 13, 39, 40, MAX}) {
            for (int k = 0; k < 3; k++) {
                int sheet = k;
                Twins.refused("31: INDEX " + i + " of SHEET " + k, Towns::rich, -12, x -> x.lay(sheet, i, 1));
            }
        }
        for (int i : new int[] {-1, 40, 41}) {
            Twins.refused("31: INDEX " + i + " of forty", Towns::full, -12, x -> x.lay(2, i, 1));
        }
    }

    // ---- 32

    /** For each n all pairs in their order, up to the last CELL. */
    private static void readPairs() {
        for (int n = 2; n <= 8; n++) {
            int pairs = n * (n - 1) / 2;
            for (int lane = 0; lane < 3; lane++) {
                HourRoads x = ofTowns(n);
                x.sheet(lane, lane, 40);
                for (int i = 0; i < 40; i++) {
                    x.lay(lane, i, i);
                }
                int from = 40 - pairs;
                Check.due("32: one CELL too few for " + n, x.read(lane, lane, from + 1), -12);
                Check.due("32: none changed", x.count(6), 0);
                Check.due("32: the last CELLS for " + n, x.read(lane, lane, from), pairs);
                checkRoads(x, n, from);
                Check.due("32: from 0 on, one is none", x.read(lane, lane, 0), pairs - 1);
                Check.due("32: so many roads", x.count(6), pairs - 1);
                x.sheet(lane, lane, pairs);
                Check.due("32: as many CELLS as pairs", x.read(lane, lane, 0), 0);
                x.sheet(lane, lane, pairs - 1);
                Check.due("32: one CELL less", x.read(lane, lane, 0), -12);
            }
        }
    }

    private static void checkRoads(HourRoads x, int n, int from) {
        int at = from;
        for (int a = 0; a < n; a++) {
            for (int b = a + 1; b < n; b++) {
                Check.due("32: road of " + a + " and " + b + " of " + n, x.net(a, b, at), at);
                at++;
            }
        }
    }

    private static void readBounds() {
        HourRoads x = ofTowns(3);
        x.sheet(0, 2, 3);
        int[][] due = {{0, 0}, {1, 1}, {9999, 1}, {10000, -20}, {-1, -20}, {MIN, -20}, {MAX, -20}};
        for (int i = 0; i < 3; i++) {
            for (int[] d : due) {
                x.lay(0, i, d[0]);
                Check.due("32: CELL " + i + " of " + d[0], x.read(0, 2, 0), d[1] < 0 ? d[1] - i : d[1]);
            }
            x.lay(0, i, 0);
        }
        HourRoads all = ofTowns(8);
        all.sheet(2, 2, 40);
        for (int i = 0; i < 28; i++) {
            all.lay(2, 12 + i, 10000);
            Check.due("32: -20 less " + i, all.read(2, 2, 12), -20 - i);
            all.lay(2, 12 + i, 9999);
        }
        Check.due("32: all roads", all.read(2, 2, 12), 28);
        Check.due("32: the last of 9999", all.net(6, 7, 0), 9999);
        all.sheet(2, 2, 40);
        Check.due("32: 0: none", all.read(2, 2, 0), 0);
        Check.due("32: in place of what there was", all.way(0, 7), NONE);
    }

    private static void readRefused() {
        int[][] none = {{-1, 0, 0}, {4, 0, 0}, {MIN, 0, 0}, {MAX, 0, 0}, {0, -1, 0}, {0, 3, 0}, {3, 3, 0}, {3, -1, -1},
            {0, MIN, 0}, {0, MAX, 0}, {4, 3, -1}};
        for (int[] p : none) {
            Towns.refusedEverywhere("32: read(" + p[0] + ", " + p[1] + ", " + p[2] + ")", BAD,
                x -> x.read(p[0], p[1], p[2]));
        }
        for (int f : new int[] {MIN, -1, 0, 40, MAX}) {
            for (int lane = 0; lane < 3; lane++) {
                int as = lane;
                Twins.refused("32: NULL from " + f + " on", Towns::rich, -11, x -> x.read(3, as, f));
                for (int k = 0; k < 3; k++) {
                    int sheet = k;
                    if (k != lane) {
                        Twins.refused("32: CAST of SHEET " + k + " from " + f + " on", Towns::rich, -13,
                            x -> x.read(sheet, as, f));
                    }
                }
            }
        }
        Twins.refused("32: CAST of no CELLS", () -> emptySheet(), -13, x -> x.read(0, 2, 0));
        Twins.refused("32: INDEX of no CELLS", () -> emptySheet(), -12, x -> x.read(0, 1, 0));
        for (int f : new int[] {MIN, -10, -1, 3, 11, 12, 40, MAX - 9, MAX}) {
            Twins.refused("32: INDEX from " + f + " on", Towns::rich, -12, x -> x.read(0, 0, f));
            Twins.refused("32: INDEX of SHEET 1 from " + f + " on", Towns::rich, -12, x -> x.read(1, 1, f));
        }
        Check.due("32: the last CELL that fits", Towns.rich().read(0, 0, 2), 10);
    }

    private static HourRoads emptySheet() {
        HourRoads x = new HourRoads();
        x.sheet(0, 1, 0);
        return x;
    }

    /** CELL by CELL: the INDEX or a CELL that is no road, whichever is met first. */
    private static void readFirstMet() {
        Twins.refused("32: the CELL is the last", Towns::rich, -29, x -> x.read(2, 2, 2));
        Twins.refused("32: the CELL ahead of the INDEX", Towns::rich, -28, x -> x.read(2, 2, 3));
        Twins.refused("32: the CELL, then the INDEX", Towns::rich, -20, x -> x.read(2, 2, 11));
        Twins.refused("32: the INDEX alone", Towns::rich, -12, x -> x.read(2, 2, 12));
        Twins.refused("32: the INDEX ahead of the CELL", Towns::rich, -12, x -> x.read(2, 2, -1));
        Check.due("32: without that CELL", Towns.rich().read(2, 2, 1), 10);
        Twins.Maker two = () -> {
            HourRoads x = Towns.rich();
            x.lay(2, 4, -1);
            x.lay(2, 5, 10000);
            return x;
        };
        Twins.refused("32: the first of two", two, -24, x -> x.read(2, 2, 0));
        Twins.refused("32: below 0", two, -20, x -> x.read(2, 2, 4));
        Twins.refused("32: above 9999", two, -20, x -> x.read(2, 2, 5));
        Twins.refused("32: CAST ahead of a CELL", two, -13, x -> x.read(2, 1, 4));
    }

    // ---- 33

    private static void counts(String when, HourRoads x, int... due) {
        for (int what = 0; what < 9; what++) {
            Check.due("33: count(" + what + "), " + when, x.count(what), due[what]);
        }
    }

    private static void counts() {
        counts("new", new HourRoads(), 4, 0, 0, 0, 0, 1, 0, 0, NONE);
        counts("full", Towns.full(), 8, 24, 12, 12, 1, 1, 0, 240, 40);
        counts("rich", Towns.rich(), 5, 6, 4, 1, 3, 1, 2, 25, 12);
        counts("quarrel", Towns.quarrel(), 5, 4, 4, 0, 4, 2, 2, 25, 12);
        HourRoads x = Check.told(8, "a b1;a b1by1;a b1by2;a b1by3;a b1by4;a b1by5;a b2by5summer;a b3by5winter;");
        Check.due("33: six WRITERS", x.count(4), 6);
        for (int k = 0; k < 8; k++) {
            x.doubt(k, true);
        }
        Check.due("33: their HOURS are DOUBTED", x.count(3), 8);
        Check.due("33: none COUNTS", x.count(2), 0);
        Check.due("33: they have them", x.count(4), 6);
        Check.due("33: of SHEET 0 alone", x.sheet(1, 0, 5) * 10 + x.count(8), 10 + NONE);
        x.sheet(0, 0, 0);
        Check.due("33: no CELLS is not nothing", x.count(8), 0);
        Check.due("33: one WRITER", Check.told(2, "a b 1 by 5;").count(4), 1);
    }

    private static void countRefused() {
        for (int what : new int[] {MIN, -1, 9, 10, MAX}) {
            Towns.refusedEverywhere("33: count(" + what + ")", BAD, x -> x.count(what));
        }
        Twins.refused("33: SHEET 0 is nothing", HourRoads::new, NONE, x -> x.count(8));
    }
}
