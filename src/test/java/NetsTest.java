/** Promises 26 to 33 by hand: nets, sheets, counts. */
public final class NetsTest {
    private static final int BAD = HourRoads.BAD;
    private static final int STATE = HourRoads.STATE;
    private static final int NONE = HourRoads.NONE;

    private NetsTest() {
    }

    public static void main(String[] args) {
        netAndWay();
        judge();
        draw();
        sheet();
        lay();
        read();
        count();
        Check.end("NetsTest");
    }

    private static void netAndWay() {
        HourRoads x = new HourRoads();
        Check.due("26: net(0, 1, 9999)", x.net(0, 1, 9999), 0);
        Check.due("26: net(1, 0, 7)", x.net(1, 0, 7), 9999);
        Check.due("27: way(0, 1)", x.way(0, 1), 7);
        Check.due("26: net(1, 2, 5)", x.net(1, 2, 5), 0);
        Check.due("27: way(2, 0)", x.way(2, 0), 12);
        Check.due("26: net(0, 2, 13)", x.net(0, 2, 13), 0);
        Check.due("27: the longer road is not the way", x.way(0, 2), 12);
        Check.due("26: net(0, 2, 11)", x.net(0, 2, 11), 13);
        Check.due("27: the shorter one is", x.way(0, 2), 11);
        Check.due("27: no way", x.way(0, 3), NONE);
        Check.due("27: to itself", x.way(3, 3), 0);
        for (int[] p : new int[][] {{0, 0, 1}, {0, 4, 1}, {4, 0, 1}, {-1, 0, 1}, {0, -1, 1}, {0, 1, -1},
            {0, 1, 10000}, {0, 1, Integer.MIN_VALUE}}) {
            Check.due("26: net(" + p[0] + ", " + p[1] + ", " + p[2] + ")", x.net(p[0], p[1], p[2]), BAD);
        }
        Check.due("26: what is refused changes nothing", x.way(0, 1), 7);
        for (int[] p : new int[][] {{0, 4}, {4, 0}, {-1, 0}, {0, -1}, {4, 4}}) {
            Check.due("27: way(" + p[0] + ", " + p[1] + ")", x.way(p[0], p[1]), BAD);
        }
        Check.due("26: net(0, 1, 0)", x.net(0, 1, 0), 7);
        Check.due("26: net(0, 1, 0) again", x.net(0, 1, 0), 0);
        Check.due("27: the way round", x.way(0, 1), 16);
        Check.tell(x, "a b 3;");
        Check.due("27: hours are no roads", x.way(0, 1), 16);
    }

    private static void judges(HourRoads x, String when, int not, int miss, int first, int needless) {
        Check.due("28: not within, " + when, x.judge(0), not);
        Check.due("28: the greatest miss, " + when, x.judge(1), miss);
        Check.due("28: the first, " + when, x.judge(2), first);
        Check.due("28: roads that can go, " + when, x.judge(3), needless);
    }

    private static void judge() {
        HourRoads x = Check.told(5, "a b 5 to 7;b c 4;a c 9 to 11;d e 3;a d 9 winter;");
        judges(x, "no roads", 4, 0, 0, 0);
        x.net(0, 1, 5);
        judges(x, "one road", 3, 0, 1, 0);
        x.net(1, 2, 4);
        judges(x, "two roads", 1, 0, 3, 0);
        x.net(3, 4, 3);
        judges(x, "three roads", 0, 0, NONE, 0);
        x.net(0, 1, 7);
        x.net(1, 2, 7);
        judges(x, "longer ones", 2, 3, 1, 0);
        x.net(0, 2, 2);
        judges(x, "a short one", 2, 7, 1, 0);
        x.net(0, 2, 14);
        judges(x, "one as long as two", 2, 3, 1, 1);
        x.net(0, 2, 13);
        judges(x, "one less long", 2, 3, 1, 0);
        x.season(2);
        judges(x, "in winter", 3, 3, 1, 0);
        x.doubt(1, true);
        judges(x, "one doubted", 2, 2, 2, 0);
        for (int what : new int[] {-1, 4, Integer.MAX_VALUE}) {
            Check.due("28: judge(" + what + ")", x.judge(what), BAD);
        }
        HourRoads even = new HourRoads();
        for (int a = 0; a < 4; a++) {
            for (int b = a + 1; b < 4; b++) {
                even.net(a, b, b - a);
            }
        }
        Check.due("28: three of a row's six", even.judge(3), 3);
        Check.due("28: they are judged, not gone", even.count(6), 6);
    }

    private static void draw() {
        HourRoads x = Check.told(4, "a b 3;b c 4 to 6;a c 9 to 20;");
        x.net(0, 3, 8);
        x.net(0, 2, 1);
        Check.due("29: draw()", x.draw(), 2);
        Check.due("29: the roads", x.count(6), 2);
        Check.due("29: what was is gone", x.net(0, 3, 0), 0);
        Check.due("29: and that too", x.net(0, 2, 0), 0);
        Check.due("29: MOST", x.net(1, 2, 6), 6);
        Check.due("29: way(0, 2)", x.way(0, 2), 9);
        Check.due("29: it fits", x.judge(0), 0);
        Check.tell(x, "a b 3;a b 4;");
        Check.due("29: it can not be", x.draw(), STATE);
        Check.due("29: nothing has changed", x.way(0, 2), 9);
        Check.tell(x, "a b 3 summer;a b 4 winter;c d 7 winter;");
        Check.due("29: summer's", x.draw(), 1);
        x.season(2);
        Check.due("29: winter's", x.draw(), 2);
        Check.due("29: way(1, 0)", x.way(1, 0), 4);
        x.hours();
        Check.due("29: no hours, no roads", x.draw(), 0);
        Check.due("29: none is left", x.count(6), 0);
    }

    private static void sheet() {
        HourRoads x = new HourRoads();
        for (int[] p : new int[][] {{4, 0, 1}, {-1, 0, 1}, {0, 3, 1}, {0, -1, 1}, {0, 0, 41}, {4, 0, -1},
            {0, 3, -1}, {0, 0, Integer.MAX_VALUE}}) {
            Check.due("30: sheet(" + p[0] + ", " + p[1] + ", " + p[2] + ")", x.sheet(p[0], p[1], p[2]), BAD);
        }
        Check.due("30: below 0", x.sheet(0, 0, -1), -14);
        Check.due("30: far below 0", x.sheet(3, 2, Integer.MIN_VALUE), -14);
        Check.due("30: it is nothing still", x.count(8), NONE);
        Check.due("30: none", x.sheet(0, 2, 0), 1);
        Check.due("30: no cells", x.count(8), 0);
        Check.due("30: forty", x.sheet(0, 1, 40), 1);
        Check.due("30: forty cells", x.count(8), 40);
        x.lay(0, 0, 5);
        Check.due("30: refused", x.sheet(0, 0, -5), -14);
        Check.due("30: it stays", x.read(0, 1, 0), 1);
        Check.due("30: a new one", x.sheet(0, 1, 40), 1);
        Check.due("30: its cells are 0", x.read(0, 1, 0), 0);
    }

    private static void lay() {
        HourRoads x = new HourRoads();
        x.towns(2);
        for (int lane = 0; lane < 3; lane++) {
            x.sheet(lane, lane, 3);
        }
        Check.due("31: no such sheet", x.lay(4, 0, 0), BAD);
        Check.due("31: no such sheet", x.lay(-1, 0, 0), BAD);
        Check.due("31: nothing", x.lay(3, 0, 0), -11);
        Check.due("31: nothing, ahead of the index", x.lay(3, -1, 0), -11);
        Check.due("31: index 3", x.lay(0, 3, 0), -12);
        Check.due("31: index -1", x.lay(0, -1, 0), -12);
        Check.due("31: index MAX", x.lay(0, Integer.MAX_VALUE, 0), -12);
        int[][] due = {{127, 127, 127, 127}, {128, -20, 128, 128}, {0x10007, 7, 7, -20}, {256, 0, 256, 256},
            {32768, 0, -20, -20}, {9999, 15, 9999, 9999}, {-1, -20, -20, -20}, {0x1270f, 15, 9999, -20},
            {Integer.MIN_VALUE, 0, 0, -20}, {10000, 16, -20, -20}};
        for (int[] d : due) {
            for (int lane = 0; lane < 3; lane++) {
                Check.due("31: lay " + d[0], x.lay(lane, 2, d[0]), 1);
                int got = x.read(lane, lane, 2);
                int read = got < 0 ? got : x.net(0, 1, 0);
                Check.due("31: lowest bits of " + d[0] + " in lane " + lane, read, d[1 + lane]);
            }
        }
        x.sheet(3, 0, 0);
        Check.due("31: no cell at all", x.lay(3, 0, 0), -12);
    }

    private static void read() {
        HourRoads x = new HourRoads();
        Check.due("32: no such sheet", x.read(4, 0, 0), BAD);
        Check.due("32: no such sheet", x.read(-1, 0, 0), BAD);
        Check.due("32: no such lane", x.read(0, 3, 0), BAD);
        Check.due("32: no such lane", x.read(0, -1, 0), BAD);
        Check.due("32: nothing", x.read(0, 0, 0), -11);
        x.sheet(0, 2, 8);
        Check.due("32: another lane", x.read(0, 0, 0), -13);
        Check.due("32: another lane, ahead of the index", x.read(0, 1, 99), -13);
        for (int i = 0; i < 8; i++) {
            x.lay(0, i, 10 * i);
        }
        x.net(2, 3, 77);
        Check.due("32: five roads and none", x.read(0, 2, 0), 5);
        int[][] pairs = {{0, 1}, {0, 2}, {0, 3}, {1, 2}, {1, 3}, {2, 3}};
        for (int i = 0; i < 6; i++) {
            Check.due("32: road " + i, x.net(pairs[i][0], pairs[i][1], 3), 10 * i);
        }
        Check.due("32: from cell 2 on", x.read(0, 2, 2), 6);
        Check.due("32: the last", x.net(3, 2, 70), 70);
        Check.due("32: the way by it", x.way(0, 1), 20);
        Check.due("32: from cell 3 on", x.read(0, 2, 3), -12);
        for (int f : new int[] {-1, 8, Integer.MAX_VALUE, Integer.MIN_VALUE, Integer.MAX_VALUE - 3}) {
            Check.due("32: from cell " + f + " on", x.read(0, 2, f), -12);
        }
        x.lay(0, 6, 10000);
        Check.due("32: a cell out of bounds", x.read(0, 2, 2), -24);
        Check.due("32: it is met first", x.read(0, 2, 3), -23);
        x.lay(0, 6, -1);
        Check.due("32: a cell below 0", x.read(0, 2, 1), -25);
        Check.due("32: none changed", x.net(0, 1, 20), 20);
        Check.due("32: the index is met first", x.read(0, 2, 7), -12);
        x.lay(0, 6, 9999);
        Check.due("32: 9999", x.read(0, 2, 1), 6);
        Check.due("32: is a road", x.net(2, 3, 0), 9999);
        x.sheet(0, 2, 8);
        Check.due("32: all none", x.read(0, 2, 0), 0);
        Check.due("32: no way", x.way(0, 1), NONE);
        x.towns(8);
        x.sheet(1, 0, 28);
        x.lay(1, 27, 9);
        Check.due("32: eight towns", x.read(1, 0, 0), 1);
        Check.due("32: the last pair", x.way(6, 7), 9);
        x.sheet(1, 0, 27);
        Check.due("32: one cell too few", x.read(1, 0, 0), -12);
    }

    private static void count() {
        HourRoads x = Check.told(5, "a b 3 by 2;a b 3 by 2 winter;b c 4 by 5;c d 4 summer;");
        x.doubt(2, true);
        x.net(0, 1, 3);
        x.net(0, 4, 3);
        x.sheet(0, 2, 17);
        x.sheet(1, 2, 18);
        Check.feed(x, "abcde");
        int[] due = {5, 4, 2, 1, 3, 1, 2, 5, 17};
        for (int what = 0; what < due.length; what++) {
            Check.due("33: count(" + what + ")", x.count(what), due[what]);
        }
        x.season(2);
        Check.due("33: in winter", x.count(2), 2);
        x.doubt(0, true);
        Check.due("33: one less", x.count(2), 1);
        Check.due("33: two doubted", x.count(3), 2);
        Check.due("33: a doubted hour is had", x.count(4), 3);
        Check.due("33: the season", x.count(5), 2);
        for (int what : new int[] {-1, 9, Integer.MIN_VALUE, Integer.MAX_VALUE}) {
            Check.due("33: count(" + what + ")", x.count(what), BAD);
        }
    }
}
