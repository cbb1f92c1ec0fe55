/** Promises 17 to 25 by hand: roads, whom to doubt, parts, trees, corners, winter. */
public final class RoadsTest {
    private static final int BAD = HourRoads.BAD;
    private static final int STATE = HourRoads.STATE;
    private static final int NONE = HourRoads.NONE;

    private RoadsTest() {
    }

    public static void main(String[] args) {
        roads();
        wrong();
        writers();
        part();
        tree();
        corner();
        best();
        shut();
        Check.end("RoadsTest");
    }

    private static void roads() {
        HourRoads x = Check.told(5, "c b 4;a b 3;c a 7;d e 2;a b 5;");
        int[][] due = {{0, 1, 3}, {1, 2, 4}, {3, 4, 2}};
        Check.due("17: roads()", x.roads(), 3);
        for (int k = 0; k < 3; k++) {
            for (int what = 0; what < 3; what++) {
                Check.due("18: road(" + k + ", " + what + ")", x.road(k, what), due[k][what]);
            }
        }
        Check.due("17: it can not be, they are told", x.can(), 0);
        for (int[] p : new int[][] {{3, 0}, {-1, 0}, {0, 3}, {0, -1}, {28, 0}, {Integer.MAX_VALUE, 1}}) {
            Check.due("18: road(" + p[0] + ", " + p[1] + ")", x.road(p[0], p[1]), BAD);
        }
        Check.tell(x, "c b 4;a b 3;c a 6;");
        Check.due("17: one less than over a third", x.roads(), 3);
        x.doubt(0, true);
        Check.due("17: one is doubted", x.roads(), 2);
        StringBuilder all = new StringBuilder();
        for (char a = 'a'; a < 'g'; a++) {
            for (char b = (char) (a + 1); b <= 'g'; b++) {
                all.append(a).append(' ').append(b).append("3;");
            }
        }
        HourRoads many = Check.told(7, all.toString());
        Check.due("17: all pairs of seven", many.roads(), 21);
        Check.due("18: the last", many.road(20, 0) * 8 + many.road(20, 1), 5 * 8 + 6);
    }

    private static void wrong() {
        HourRoads x = Check.told(4, "a b 5;a b 6;a b 5;c d 1;");
        Check.due("19: one to doubt", x.wrong(0), 1);
        Check.due("19: which", x.wrong(1), 2);
        Check.due("19: no rival", x.wrong(2), 1);
        x.doubt(1, true);
        Check.due("19: none to doubt more", x.wrong(0), 0);
        Check.due("19: no bits", x.wrong(1), 0);
        Check.due("19: the empty set", x.wrong(2), 1);
        Check.tell(x, "a b 5;a b 6;c d 7;c d 8;");
        Check.due("19: two to doubt", x.wrong(0), 2);
        Check.due("19: the least bits", x.wrong(1), 5);
        Check.due("19: rivals", x.wrong(2), 4);
        Check.due("19: wrong(3)", x.wrong(3), BAD);
        Check.due("19: wrong(-1)", x.wrong(-1), BAD);
        Check.tell(x, "a b 1;a b 2;a b 3;a b 4;a b 5;a b 6;a b 7;a b 8;a b 9;a b 10;a b 11;a b 12;");
        Check.due("19: twelve that all differ", x.wrong(0), 11);
        Check.due("19: all but the last", x.wrong(1), 2047);
        Check.due("19: each may stay", x.wrong(2), 12);
        String more = "a b 1;a b 2;a b 3;a b 4;a b 5;a b 6;a b 7;a b 8;a b 9;a b 10;a b 11;a b 12;a b 13;";
        Check.tell(x, more);
        Check.due("19: thirteen", x.wrong(0), STATE);
        Check.due("19: BAD ahead of STATE", x.wrong(3), BAD);
        x.doubt(0, true);
        Check.due("19: twelve of them count", x.wrong(0), 11);
        Check.due("19: bits of the 24", x.wrong(1), 4094);
        Check.tell(x, "b c 3 summer;a b 9;a b 9;a b 9;".repeat(3) + "a b 9;");
        Check.due("19: thirteen that can be", x.wrong(0), STATE);
        x.season(2);
        Check.due("19: in winter ten count", x.wrong(0), 0);
    }

    private static void writers() {
        HourRoads x = Check.told(4, "a b 5 by 1;a b 6 by 2;a b 7 by 3;c d 5 by 3;c d 6 by 1;");
        Check.due("20: two to doubt", x.writers(0), 2);
        Check.due("20: the least bits", x.writers(1), 6);
        Check.due("20: rivals", x.writers(2), 3);
        Check.tell(x, "a b 5 by 5;a b 6 by 5;");
        Check.due("20: one against himself", x.writers(0), 1);
        Check.due("20: bit 5", x.writers(1), 32);
        Check.due("20: alone", x.writers(2), 1);
        x.doubt(1, true);
        Check.due("20: what is doubted counts no more", x.writers(0), 0);
        Check.due("20: no bits", x.writers(1), 0);
        Check.due("20: the empty set", x.writers(2), 1);
        Check.due("20: writers(3)", x.writers(3), BAD);
        Check.due("20: writers(-1)", x.writers(-1), BAD);
        Check.tell(x, "a b 5 by 1;a b 6 by 2;".repeat(7));
        Check.due("20: however many count", x.writers(0), 1);
        Check.due("20: either of two", x.writers(2), 2);
        Check.tell(x, "a b 1 by 0;a b 2 by 1;a b 3 by 2;a b 4 by 3;a b 5 by 4;a b 6 by 5;");
        Check.due("20: all but one of six", x.writers(0), 5);
        Check.due("20: the last may stay", x.writers(1), 31);
        Check.due("20: each may stay", x.writers(2), 6);
    }

    private static void part() {
        HourRoads x = Check.told(4, "a b 20 to 30 by 2;b a 40 to 60 by 4;c d 9 to 12 by 2;c d 6 to 10 by 4;"
            + "a c 1 by 2;a c 1 by 4 summer;b c 1000 by 2;a d 1 by 4;");
        int[] due = {9, 10, 3, 4, 2};
        int[] other = {4, 3, 10, 9, 2};
        for (int what = 0; what < 5; what++) {
            Check.due("21: part(2, 4, " + what + ")", x.part(2, 4, what), due[what]);
            Check.due("21: part(2, 3, " + what + ")", x.part(2, 3, what), what == 4 ? 0 : NONE);
        }
        Check.due("21: part(4, 2, 0)", x.part(4, 2, 0), other[0]);
        Check.due("21: part(4, 2, 1)", x.part(4, 2, 1), other[1]);
        Check.due("21: part(4, 2, 2)", x.part(4, 2, 2), other[2]);
        Check.due("21: part(4, 2, 3)", x.part(4, 2, 3), other[3]);
        for (int[] p : new int[][] {{2, 2, 0}, {6, 2, 0}, {2, 6, 0}, {-1, 2, 0}, {2, -1, 0}, {2, 4, 5},
            {2, 4, -1}, {2, 2, 4}}) {
            Check.due("21: part(" + p[0] + ", " + p[1] + ", " + p[2] + ")", x.part(p[0], p[1], p[2]), BAD);
        }
        x.season(2);
        Check.due("21: whatever the season", x.part(2, 4, 4), 2);
        x.doubt(2, true);
        Check.due("21: one is doubted", x.part(2, 4, 4), 1);
        Check.due("21: a third", x.part(2, 4, 0), 1);
        Check.due("21: of it", x.part(2, 4, 1), 3);
        x.doubt(1, true);
        Check.due("21: the other one too", x.part(2, 4, 4), 0);
        Check.due("21: no fraction", x.part(2, 4, 2), NONE);
        Check.tell(x, "a b 9999 by 0;a b 1 by 5;a b 9998 to 9999 by 5;");
        Check.due("21: great ones", x.part(0, 5, 0), 9999);
        Check.due("21: over 1", x.part(0, 5, 1), 1);
        Check.due("21: the least", x.part(0, 5, 2), 9999);
        Check.due("21: over 9998", x.part(0, 5, 3), 9998);
    }

    private static void tree() {
        HourRoads x = Check.told(4, "a b 1;b c 1;c d 1;d a 1;");
        Check.due("22: a ring is none", x.tree(0), 0);
        Check.due("22: the four", x.tree(1), 64 + 16 + 3);
        Check.due("22: tree(2)", x.tree(2), BAD);
        Check.due("22: tree(-1)", x.tree(-1), BAD);
        x.doubt(0, true);
        Check.due("22: a row is one", x.tree(0), 1);
        Check.due("22: none bar it", x.tree(1), NONE);
        x.doubt(1, true);
        Check.due("22: not all joined", x.tree(0), STATE);
        Check.due("22: nor the four", x.tree(1), STATE);
        Check.due("22: BAD ahead", x.tree(2), BAD);
        HourRoads big = Check.told(6, "a b 1;a c 1;c d 1;d e 1;e f 1;f c 1;");
        Check.due("22: the first four that bar", big.tree(1), 64 * 3 + 8 * 4 + 5);
        Check.due("22: three towns", Check.told(3, "a b 1;b c 1;c a 1;").tree(0), 1);
        Check.due("22: the least two alike do not do",
            Check.told(4, "a b 3;c d 3;a c 2;b d 2;a d 2;b c 2;").tree(0), 0);
    }

    private static void corner() {
        HourRoads x = Check.told(6, "a b 4;a c 4;a d 4;b c 4;b d 4;c d 4;d e 3;");
        Check.due("23: six roads less four ends", x.corner(0, 1, 2, 0), 2);
        Check.due("23: six roads", x.corner(0, 1, 2, 1), 6);
        int[] far = {2, 2, 2, 2, 5, NONE};
        for (int t = 0; t < 6; t++) {
            Check.due("23: how far town " + t, x.corner(0, 1, 2, 10 + t), far[t]);
        }
        Check.due("23: halves of 4, 7, 7", x.corner(0, 1, 4, 0), 2);
        Check.due("23: not joined", x.corner(0, 1, 5, 0), STATE);
        Check.due("23: the first is not joined", Check.told(4, "b c 2;c d 2;").corner(0, 1, 2, 0), STATE);
        for (int[] p : new int[][] {{0, 2, 1, 0}, {0, 0, 1, 0}, {0, 1, 1, 0}, {1, 0, 2, 0}, {0, 1, 6, 0},
            {-1, 0, 1, 0}, {0, 1, 2, 2}, {0, 1, 2, 9}, {0, 1, 2, 16}, {0, 1, 2, -1}, {0, 1, 7, 0},
            {0, 1, 2, Integer.MAX_VALUE}, {0, 1, 2, Integer.MIN_VALUE}}) {
            Check.due("23: corner(" + p[0] + ", " + p[1] + ", " + p[2] + ", " + p[3] + ")",
                x.corner(p[0], p[1], p[2], p[3]), BAD);
        }
        HourRoads odd = Check.told(4, "a b 3;b c 3;a c 3;");
        Check.due("23: an odd half", odd.corner(0, 1, 2, 0), NONE);
        Check.due("23: nor how far", odd.corner(0, 1, 2, 10), NONE);
        Check.due("23: BAD ahead of NONE", odd.corner(0, 1, 2, 14), BAD);
        HourRoads row = Check.told(5, "a b 3;b c 5;c d 2;c e 9;d e 4;");
        Check.due("23: in town b", row.corner(0, 1, 2, 11), 0);
        Check.due("23: d after the three", row.corner(0, 1, 2, 13), 7);
        Check.due("23: e after d", row.corner(0, 1, 2, 14), 11);
        Check.due("23: roads of b", row.corner(0, 1, 2, 1), 2);
        Check.due("23: two roads less three ends", row.corner(0, 1, 2, 0), -1);
        HourRoads across = Check.told(4, "a b 4;a c 4;b c 2;b d 1;c d 1;");
        Check.due("23: the first of the three is the farthest", across.corner(0, 1, 2, 13), 2);
        HourRoads later = Check.told(5, "a b 4;a c 4;b c 4;a d 2;b d 2;c d 2;a e 2;b e 2;c e 2;d e 4;");
        Check.due("23: one that came ahead", later.corner(0, 1, 2, 13), 0);
        Check.due("23: pushes the next", later.corner(0, 1, 2, 14), 4);
    }

    private static void best() {
        HourRoads x = Check.told(6, "a b 4;a c 4;a d 4;b c 4;b d 4;c d 4;d e 3;");
        Check.due("24: the gain", x.best(0), 2);
        Check.due("24: the least three", x.best(1), 8 + 2);
        Check.due("24: best(2)", x.best(2), BAD);
        Check.due("24: best(-1)", x.best(-1), BAD);
        HourRoads high = Check.told(8, "e f 4;e g 4;e h 4;f g 4;f h 4;g h 4;a b 3;b c 2;c a 3;");
        Check.due("24: a heap that is not the first", high.best(1), 64 * 4 + 8 * 5 + 6);
        HourRoads flat = Check.told(3, "a b 3;a c 4;b c 5;");
        Check.due("24: a gain of 0 is none", flat.best(0), NONE);
        Check.due("24: nor the three", flat.best(1), NONE);
        Check.due("24: two towns", Check.told(2, "a b 4;").best(0), NONE);
    }

    private static void shut() {
        String summer = "a b 3;b c 3;a c 4;c d 5;";
        HourRoads x = Check.told(4, summer + "a c 6 winter;");
        Check.due("25: one road", x.shut(0), 1);
        Check.due("25: which", x.shut(1), 2);
        Check.due("25: shut(2)", x.shut(2), BAD);
        Check.due("25: shut(-1)", x.shut(-1), BAD);
        x.season(2);
        Check.due("25: whatever the season", x.shut(1), 2);
        x.doubt(4, true);
        Check.due("25: no hour of winter", x.shut(0), 0);
        Check.due("25: no bits", x.shut(1), 0);
        Check.tell(x, summer + "a c 4 winter;");
        Check.due("25: as in summer", x.shut(0), 0);
        Check.tell(x, summer + "a c 7 to 9 winter;");
        Check.due("25: none explain it", x.shut(0), NONE);
        Check.due("25: nor which", x.shut(1), NONE);
        Check.tell(x, summer + "a c 3 winter;");
        Check.due("25: too fast for summer's roads", x.shut(0), NONE);
        Check.tell(x, summer + "a c 6 winter;a b 3 winter;c d 6 to 99 winter;");
        Check.due("25: there must be a way", x.shut(0), NONE);
        Check.tell(x, summer + "a c 6 winter;b c 7 winter;");
        Check.due("25: these two bar each other", x.shut(0), NONE);
        Check.tell(x, summer + "a b 7 winter;");
        Check.due("25: least bits", x.shut(1), 1);
        Check.tell(x, "a b 3;a b 4;a c 4 winter;");
        Check.due("25: summer can not be", x.shut(0), STATE);
        Check.due("25: BAD ahead", x.shut(2), BAD);
        Check.tell(x, "a b 3 summer;b c 3 winter;a b 4 winter;");
        Check.due("25: winter quarrels not with summer", x.shut(0), NONE);
        StringBuilder all = new StringBuilder();
        for (char a = 'a'; a < 'f'; a++) {
            for (char b = (char) (a + 1); b <= 'f'; b++) {
                all.append(a).append(' ').append(b).append("3;");
            }
        }
        HourRoads many = Check.told(6, all.append("a b6winter;").toString());
        Check.due("25: fifteen roads", many.shut(0), STATE);
        many.doubt(14, true);
        many.doubt(13, true);
        Check.due("25: thirteen", many.shut(0), STATE);
        many.doubt(12, true);
        Check.due("25: twelve", many.shut(0), 1);
        HourRoads two = Check.told(4, "a b 1;b d 1;a c 1;c d 1;a d 2;a d 3 to 9 winter;");
        Check.due("25: of several ways all must go", two.shut(0), NONE);
        Check.tell(two, "a c 6 winter;a b 3;b c 3;a c 4;");
        Check.due("25: the first hour is winter's", two.shut(1), 2);
        Check.tell(two, "a b 1;b d 1;a c 1;c d 2;a d 3 winter;");
        Check.due("25: the least of two", two.shut(1), 1);
    }
}
