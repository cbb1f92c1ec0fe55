/** The edges that the document names for roads, doubts, parts, trees, corners, winter: promises 17 to 25. */
public final class EdgesRoadsTest {
    private static final int BAD = HourRoads.BAD;
    private static final int STATE = HourRoads.STATE;
    private static final int NONE = HourRoads.NONE;
    private static final int MIN = Integer.MIN_VALUE;
    private static final int MAX = Integer.MAX_VALUE;

    private EdgesRoadsTest() {
    }

    public static void main(String[] args) {
        roads();
        road();
        wrong();
        wrongRefused();
        writers();
        part();
        partPairs();
        partRefused();
        tree();
        treeRefused();
        corner();
        cornerRefused();
        best();
        shut();
        shutSearched();
        shutRefused();
        toldBefore();
        Check.end("EdgesRoadsTest");
    }

    /** The first so many pairs of eight TOWNS, each of the same minutes. */
    private static String pairs(int many, int minutes) {
        StringBuilder text = new StringBuilder();
        int left = many;
        for (char a = 'a'; a < 'h'; a++) {
            for (char b = (char) (a + 1); b <= 'h' && left > 0; b++) {
                text.append(a).append(' ').append(b).append(minutes).append(';');
                left--;
            }
        }
        return text.toString();
    }

    // ---- 17, 18

    private static void roads() {
        Check.due("17: none", new HourRoads().roads(), 0);
        for (int many = 0; many <= 24; many++) {
            Check.due("17: " + many + " pairs", Check.told(8, pairs(many, 3)).roads(), many);
        }
        Check.due("17: one of two", Check.told(2, "a b 9999;").roads(), 1);
        Check.due("17: as over a third", Check.told(3, "a b 2;b c 3;a c 5;").roads(), 2);
        Check.due("17: one less than over a third", Check.told(3, "a b 2;b c 3;a c 4;").roads(), 3);
        Check.due("17: one more than over a third", Check.told(3, "a b 2;b c 3;a c 4 to 6;").roads(), 2);
        Check.due("17: over a third that is the first", Check.told(3, "a b 2;a c 3;b c 5;").roads(), 2);
        Check.due("17: over two others", Check.told(4, "a b 1;b c 1;c d 1;a d 3;").roads(), 3);
        HourRoads x = Check.told(3, "a b 2 summer;b c 3;a c 5;");
        x.season(2);
        Check.due("17: winter's", x.roads(), 2);
        Check.due("17: are others", x.road(0, 1), 2);
    }

    private static void road() {
        HourRoads x = Check.told(8, pairs(24, 3));
        int[][] due = {{0, 0, 1}, {6, 0, 7}, {7, 1, 2}, {12, 1, 7}, {13, 2, 3}, {23, 4, 6}};
        for (int[] d : due) {
            Check.due("18: the less TOWN of " + d[0], x.road(d[0], 0), d[1]);
            Check.due("18: the greater TOWN of " + d[0], x.road(d[0], 1), d[2]);
            Check.due("18: minutes of " + d[0], x.road(d[0], 2), 3);
        }
        Check.due("18: no 25th", x.road(24, 0), BAD);
        HourRoads late = Check.told(8, "h g 7 to 9999;c b 8;b a 9;");
        Check.due("18: the last pair", late.road(2, 0) * 8 + late.road(2, 1), 55);
        Check.due("18: by MOST", late.road(2, 2), 9999);
        Check.due("18: the first by the lesser TOWN", late.road(0, 2), 9);
        for (int k : new int[] {MIN, -1, 12, 24, 28, 32, MAX}) {
            Towns.refusedEverywhere("18: road(" + k + ", 0)", BAD, t -> t.road(k, 0));
        }
        for (int what : new int[] {MIN, -1, 3, 4, MAX}) {
            Towns.refusedEverywhere("18: road(0, " + what + ")", BAD, t -> t.road(0, what));
        }
        Twins.refused("18: the first of none", HourRoads::new, BAD, t -> t.road(0, 0));
        Twins.refused("18: one beyond", Towns::rich, BAD, t -> t.road(t.roads(), 2));
        HourRoads rich = Towns.rich();
        Check.due("18: the last that there is", rich.road(rich.roads() - 1, 2), 9);
    }

    // ---- 19, 20

    private static void doubts(String when, HourRoads x, int many, int bits, int rivals) {
        Check.due("19: how many, " + when, x.wrong(0), many);
        Check.due("19: the HOURS, " + when, x.wrong(1), bits);
        Check.due("19: RIVALS, " + when, x.wrong(2), rivals);
    }

    private static void wrong() {
        doubts("no HOURS", new HourRoads(), 0, 0, 1);
        doubts("it CAN BE", Check.told(3, "a b 3;b c 3;"), 0, 0, 1);
        doubts("one of two", Check.told(2, "a b 3;a b 4;"), 1, 1, 2);
        doubts("the second of three", Check.told(2, "a b 3;a b 4;a b 3;"), 1, 2, 1);
        doubts("any of three", Check.told(3, "a b 1;b c 1;a c 3;"), 1, 1, 3);
        doubts("all but one of twelve", Check.told(2, "a b1;a b2;a b3;a b4;a b5;a b6;a b7;a b8;a b9;a b10;a b11;a b12;"),
            11, 2047, 12);
        doubts("six of twelve", Check.told(8, "a b1;a b2;c d1;c d2;e f1;e f2;g h1;g h2;a c1;a c2;b d1;b d2;"), 6,
            0x555, 64);
        HourRoads x = Check.told(2, "a b 9;".repeat(12) + "a b 9;".repeat(11) + "a b8;");
        for (int k = 0; k < 12; k++) {
            x.doubt(k, true);
        }
        doubts("the last of the 24", x, 1, 1 << 23, 1);
        Check.due("19: they are not DOUBTED by it", x.count(3), 12);
        x.doubt(23, true);
        doubts("DOUBTED by hand", x, 0, 0, 1);
        HourRoads seasons = Check.told(2, "a b 3 summer;a b 4 winter;a b 4;");
        doubts("in summer", seasons, 1, 1, 2);
        seasons.season(2);
        doubts("in winter", seasons, 0, 0, 1);
    }

    private static void wrongRefused() {
        for (int what : new int[] {MIN, -1, 3, 4, 10, MAX}) {
            Towns.refusedEverywhere("19: wrong(" + what + ")", BAD, x -> x.wrong(what));
            Towns.refusedEverywhere("20: writers(" + what + ")", BAD, x -> x.writers(what));
        }
        Twins.Maker more = () -> Check.told(2, "a b 9;".repeat(12) + "a b 8;");
        Twins.Maker all = () -> Check.told(2, "a b1;".repeat(24));
        for (int what = 0; what < 3; what++) {
            int asked = what;
            Twins.refused("19: 13 COUNT, wrong(" + what + ")", more, STATE, x -> x.wrong(asked));
            Twins.refused("19: 24 COUNT, wrong(" + what + ")", all, STATE, x -> x.wrong(asked));
        }
        Twins.refused("19: 13 COUNT, and the number is not as told", more, BAD, x -> x.wrong(3));
        Twins.refused("19: and so below 0", more, BAD, x -> x.wrong(-1));
        HourRoads x = more.make();
        x.doubt(0, true);
        doubts("12 COUNT", x, 1, 1 << 12, 1);
        x.doubt(0, false);
        Check.due("19: 13 again", x.wrong(0), STATE);
        HourRoads y = Check.told(2, "a b 9;".repeat(11) + "a b 8;a b 7 winter;");
        doubts("12 COUNT in summer", y, 1, 1 << 11, 1);
        y.season(2);
        Check.due("19: 13 COUNT in winter", y.wrong(1), STATE);
    }

    private static void writers(String when, HourRoads x, int many, int bits, int rivals) {
        Check.due("20: how many, " + when, x.writers(0), many);
        Check.due("20: those, " + when, x.writers(1), bits);
        Check.due("20: RIVALS, " + when, x.writers(2), rivals);
    }

    private static void writers() {
        writers("no HOURS", new HourRoads(), 0, 0, 1);
        writers("it CAN BE", Check.told(3, "a b 3 by 4;b c 3 by 2;"), 0, 0, 1);
        writers("one of two", Check.told(2, "a b 3 by 5;a b 4 by 0;"), 1, 1, 2);
        writers("0 alone", Check.told(2, "a b 3;a b 4;"), 1, 1, 1);
        writers("5 alone", Check.told(2, "a b 3 by 5;a b 4 by 5;a b 3 by 4;"), 1, 32, 1);
        writers("the one that quarrels with two", Check.told(2, "a b 3 by 1;a b 4 by 2;a b 3 by 3;"), 1, 4, 1);
        writers("all of six", Check.told(2,
            "a b1;a b2;a b1by1;a b2by1;a b1by2;a b2by2;a b1by3;a b2by3;a b1by4;a b2by4;a b1by5;a b2by5;"), 6, 63, 1);
        writers("the least bits of two", Check.told(4,
            "a b 1 by 0;a b 2 by 5;c d 1 by 3;c d 2 by 4;"), 2, 9, 4);
        writers("24 COUNT", Check.told(2, "a b1by4;a b2by5;".repeat(12)), 1, 16, 2);
        HourRoads x = Check.told(2, "a b 3 by 1 summer;a b 4 by 2;");
        writers("in summer", x, 1, 2, 2);
        x.season(2);
        writers("in winter", x, 0, 0, 1);
        x.season(1);
        x.doubt(1, true);
        writers("DOUBTED by hand", x, 0, 0, 1);
    }

    // ---- 21

    private static void parts(String text, int w, int v, int... due) {
        HourRoads x = Check.told(4, text);
        for (int what = 0; what < 5; what++) {
            Check.due("21: part(" + w + ", " + v + ", " + what + ") of '" + text + "'", x.part(w, v, what), due[what]);
        }
    }

    private static void part() {
        parts("a b 6;a b 4 by 1;", 0, 1, 3, 2, 3, 2, 1);
        parts("a b 6;a b 4 by 1;", 1, 0, 2, 3, 2, 3, 1);
        parts("a b 9999;a b 9999 by 5;", 0, 5, 1, 1, 1, 1, 1);
        parts("a b 9999;a b 1 by 5;", 0, 5, 9999, 1, 9999, 1, 1);
        parts("a b 1;a b 9999 by 5;", 0, 5, 1, 9999, 1, 9999, 1);
        parts("a b 9998;a b 9999 by 5;", 0, 5, 9998, 9999, 9998, 9999, 1);
        parts("a b 1 to 9999;a b 1 to 9999 by 1;", 0, 1, 1, 9999, 9999, 1, 1);
        parts("a b 20 to 30 by 2;a b 40 to 50 by 3;", 2, 3, 2, 5, 3, 4, 1);
        parts("a b 20 to 30 by 2;a b 40 to 50 by 3;", 3, 2, 4, 3, 5, 2, 1);
        parts("a b 9998 by 2;c d 9997 by 2;a b 9999 by 3;c d 9998 by 3;", 2, 3, 9998, 9999, 9997, 9998, 2);
        parts("c d 9997 by 2;a b 9998 by 2;a b 9999 by 3;c d 9998 by 3;", 2, 3, 9998, 9999, 9997, 9998, 2);
        parts("a b 2;a b 4;a b 3 by 1;", 0, 1, 4, 3, 2, 3, 2);
        parts("a b 4;a b 2;a b 3 by 1;", 0, 1, 4, 3, 2, 3, 2);
        parts("a b 2 to 3;a b 4 to 6 by 1;b a 8 to 9 by 1;", 0, 1, 1, 3, 3, 8, 2);
    }

    /** One of each, of one pair of TOWNS and one SEASON, not DOUBTED, whatever THE SEASON is. */
    private static void partPairs() {
        parts("", 0, 1, NONE, NONE, NONE, NONE, 0);
        parts("a b 2;a b 2;", 0, 1, NONE, NONE, NONE, NONE, 0);
        parts("a b 2 by 1;a b 2 by 1;", 0, 1, NONE, NONE, NONE, NONE, 0);
        parts("a b 2;a c 2 by 1;c d 2 by 1;", 0, 1, NONE, NONE, NONE, NONE, 0);
        parts("a b 2;b c 2 by 1;", 0, 1, NONE, NONE, NONE, NONE, 0);
        parts("c a 2;a c 2 by 1;", 0, 1, 1, 1, 1, 1, 1);
        parts("a b 2;a b 2 by 1 summer;a b 2 by 1 winter;", 0, 1, NONE, NONE, NONE, NONE, 0);
        parts("a b 2 summer;a b 2 by 1 winter;a b 2 by 1;", 0, 1, NONE, NONE, NONE, NONE, 0);
        parts("a b 2 winter;a b 2 by 1 winter;", 0, 1, 1, 1, 1, 1, 1);
        parts("a b 2 summer;a b 2 by 1 summer;a b 2;a b 2 by 1;", 0, 1, 1, 1, 1, 1, 2);
        parts("a b1;b a1by1;".repeat(12), 0, 1, 1, 1, 1, 1, 144);
        HourRoads x = Check.told(2, "a b1;b a1by1;".repeat(12));
        x.doubt(0, true);
        Check.due("21: one of the first is DOUBTED", x.part(0, 1, 4), 132);
        x.doubt(23, true);
        Check.due("21: one of the other too", x.part(0, 1, 4), 121);
        HourRoads y = Check.told(2, "a b 3 winter;a b 4 by 1 winter;");
        Check.due("21: in summer", y.part(0, 1, 4), 1);
        y.season(2);
        Check.due("21: in winter", y.part(0, 1, 4), 1);
    }

    private static void partRefused() {
        int[][] none = {{-1, 0, 0}, {0, -1, 0}, {6, 0, 0}, {0, 6, 0}, {0, 0, 0}, {5, 5, 4}, {MIN, 0, 4}, {0, MAX, 4},
            {0, 1, -1}, {0, 1, 5}, {0, 1, MIN}, {0, 1, MAX}, {6, 6, 0}, {0, 0, 5}};
        for (int[] p : none) {
            Towns.refusedEverywhere("21: part(" + p[0] + ", " + p[1] + ", " + p[2] + ")", BAD,
                x -> x.part(p[0], p[1], p[2]));
        }
        for (int what = 0; what < 4; what++) {
            int asked = what;
            Towns.refusedEverywhere("21: there are none", NONE, x -> x.part(4, 5, asked));
            Towns.refusedEverywhere("21: nor so", NONE, x -> x.part(5, 0, asked));
        }
        Check.due("21: how many pairs: none", Towns.rich().part(4, 5, 4), 0);
    }

    // ---- 22

    private static void tree(int n, String text, int is, int four) {
        HourRoads x = Check.told(n, text);
        Check.due("22: TREE of '" + text + "'", x.tree(0), is);
        Check.due("22: the four of '" + text + "'", x.tree(1), four);
    }

    private static void tree() {
        tree(2, "a b 1;", 1, NONE);
        tree(3, "a b 3;b c 4;c a 5;", 1, NONE);
        tree(4, "a b 2;c d 2;a c 3;b d 3;a d 3;b c 3;", 1, NONE);
        tree(4, "a b 2;c d 2;a c 3;b d 3;a d 3;b c 2;", 0, 83);
        tree(4, "a b 2;c d 2;a c 3;b d 2;a d 3;b c 3;", 0, 83);
        tree(4, "a b 3;c d 3;a c 3;b d 3;a d 3;b c 3;", 1, NONE);
        tree(4, "a b 3;c d 3;a c 2;b d 2;a d 3;b c 3;", 1, NONE);
        tree(4, "a b 3;c d 3;a c 3;b d 3;a d 2;b c 2;", 1, NONE);
        tree(4, "a b 3;c d 2;a c 2;b d 2;a d 2;b c 2;", 0, 83);
        tree(4, "a b 2;c d 2;a c 3;b d 2;a d 2;b c 2;", 0, 83);
        tree(4, "a b 2;c d 2;a c 2;b d 2;a d 3;b c 2;", 0, 83);
        tree(8, "a b 1;b c 1;c d 1;d e 1;e f 1;f g 1;g h 1;", 1, NONE);
        tree(8, "a b 1;b c 1;c d 1;d e 1;e f 1;f g 1;g h 1;h e 1;", 0, 64 * 5 + 8 * 6 + 7);
        tree(5, "a b 1;b c 1;c d 1;d e 1;e b 1;", 0, 64 * 2 + 8 * 3 + 4);
        tree(5, "a b 1;b c 1;c d 1;d a 1;d e 1;", 0, 83);
        tree(4, "a b 1;b c 1;c d 1;a d 9;", 1, NONE);
    }

    private static void treeRefused() {
        for (int what : new int[] {MIN, -1, 2, 3, MAX}) {
            Towns.refusedEverywhere("22: tree(" + what + ")", BAD, x -> x.tree(what));
        }
        for (int what = 0; what < 2; what++) {
            int asked = what;
            Twins.refused("22: one is not joined", Towns::rich, STATE, x -> x.tree(asked));
            Twins.refused("22: none is", HourRoads::new, STATE, x -> x.tree(asked));
            Twins.refused("22: two heaps", () -> Check.told(8, "a b 1;b c 1;c d 1;d a 1;e f 1;f g 1;g h 1;"), STATE,
                x -> x.tree(asked));
        }
        HourRoads x = Check.told(2, "a b 1 winter;");
        Check.due("22: not joined in summer", x.tree(0), STATE);
        x.season(2);
        Check.due("22: but in winter", x.tree(0), 1);
    }

    // ---- 23, 24

    private static final String FOUR = "a b 4;a c 4;a d 4;b c 4;b d 4;c d 4;";

    /** Four TOWNS of which two are nearer than over the CORNER: five ROADS less four ends. */
    private static final String LESS = "a b 4;a c 4;b c 4;d a 4;d b 4;d c 3;";

    private static void far(String text, int... far) {
        HourRoads x = Check.told(far.length, text);
        for (int t = 0; t < far.length; t++) {
            Check.due("23: how far TOWN " + t + " in '" + text + "'", x.corner(0, 1, 2, 10 + t), far[t]);
        }
        Check.due("23: no TOWN beyond in '" + text + "'", x.corner(0, 1, 2, 10 + far.length), BAD);
    }

    private static void corner() {
        far("a b 4;a c 6;b c 8;", 1, 3, 5);
        far("a b 4;a c 6;b c 2;", 4, 0, 2);
        far("a b 4;a c 2;b c 6;", 0, 4, 2);
        far("a b 6;a c 4;b c 2;", 4, 2, 0);
        far("a b 1;a c 1;b c 1;", NONE, NONE, NONE);
        far("a b 2;a c 2;b c 1;", NONE, NONE, NONE);
        far("a b 2;a c 1;b c 2;", NONE, NONE, NONE);
        far("a b 1;a c 2;b c 2;", NONE, NONE, NONE);
        far("a b 2;a c 1;b c 1;", 1, 1, 0);
        far("a b 9999;a c 9999;b c 9998;", 5000, 4999, 4999);
        far("a b 4;a c 4;b c 4;", 2, 2, 2, NONE, NONE);
        far(FOUR, 2, 2, 2, 2, NONE);
        far("a b 4;a c 4;b c 4;d a 2;d b 2;d c 2;", 2, 2, 2, 0);
        far("a b 4;a c 4;b c 4;d a 3;d b 3;d c 3;", 2, 2, 2, 1);
        far("a b 4;a c 4;b c 4;a e 3;b e 3;c e 3;a d 3;b d 3;c d 3;d e 5;", 2, 2, 2, 1, 4);
        far("a b 4;a c 4;b c 4;a e 3;b e 3;c e 3;a d 3;b d 3;c d 3;d e 2;", 2, 2, 2, 1, 1);
        far("a b 4;a c 4;b c 2;b d 1;c d 1;", 3, 1, 1, 2);
        far("h a 4;h b 4;h c 4;a b 4;a c 4;b c 4;", 2, 2, 2, NONE, NONE, NONE, NONE, 2);
        HourRoads x = Check.told(8, "f g 4;f h 4;g h 4;a f 9;");
        Check.due("23: the last three", x.corner(5, 6, 7, 1), 3);
        Check.due("23: three ROADS less three ends", x.corner(5, 6, 7, 0), 0);
        Check.due("23: the first came behind the three", x.corner(5, 6, 7, 10), 11);
        Check.due("23: none is as far", Check.told(4, "a d 2;b d 2;c d 2;").corner(0, 1, 2, 1), 3);
        Check.due("23: its ROADS are ends of d", Check.told(4, "a d 2;b d 2;c d 2;").corner(0, 1, 2, 0), -1);
        HourRoads none = Check.told(4, "a b 4;a c 4;b c 4;d a 3;d b 3;d c 3;");
        Check.due("23: ROADS of the three and of d", none.corner(0, 1, 2, 1), 6);
        HourRoads less = Check.told(4, "a b 4;a c 4;b c 4;d a 3;d b 3;d c 4;");
        Check.due("23: d is too far for two", less.corner(0, 1, 2, 1), 4);
        Check.due("23: four less four", less.corner(0, 1, 2, 0), 0);
        // ac, cg and df have five ends: a GAIN of the number of STATE, which it is not
        HourRoads apart = Check.told(7, "g a2;e f5;e g6;b d5;a c6;e f1;g c5;f g2;c e3;a d4;c f5;f d5;b c2;");
        Check.due("23: three ROADS apart", apart.corner(0, 1, 5, 1), 3);
        Check.due("23: three less five", apart.corner(0, 1, 5, 0), -2);
    }

    private static void cornerRefused() {
        int[][] none = {{-1, 0, 1}, {0, 0, 1}, {0, 1, 1}, {1, 0, 2}, {0, 2, 1}, {2, 1, 0}, {0, 0, 0}, {0, 1, 8},
            {6, 7, 8}, {MIN, 0, 1}, {0, 1, MAX}, {-3, -2, -1}};
        for (int[] p : none) {
            for (int what : new int[] {0, 1, 10}) {
                Towns.refusedEverywhere("23: corner(" + p[0] + ", " + p[1] + ", " + p[2] + ", " + what + ")", BAD,
                    x -> x.corner(p[0], p[1], p[2], what));
            }
        }
        for (int what : new int[] {MIN, -1, 2, 9, 18, 19, MAX}) {
            Towns.refusedEverywhere("23: corner(0, 1, 2, " + what + ")", BAD, x -> x.corner(0, 1, 2, what));
        }
        Twins.Maker odd = () -> Check.told(5, "a b 3;a c 3;b c 3;c d 1;");
        Twins.refused("23: odd and no such TOWN", odd, BAD, x -> x.corner(0, 1, 2, 15));
        Twins.refused("23: odd and no such question", odd, BAD, x -> x.corner(0, 1, 2, 2));
        Twins.refused("23: not joined and no such TOWN", odd, BAD, x -> x.corner(0, 1, 4, 15));
        for (int what : new int[] {0, 1, 10, 12, 14}) {
            Twins.refused("23: odd, " + what, odd, NONE, x -> x.corner(0, 1, 2, what));
            Twins.refused("23: the third is not joined, " + what, odd, STATE, x -> x.corner(0, 1, 4, what));
            Twins.refused("23: none is, " + what, () -> new5(), STATE, x -> x.corner(1, 2, 3, what));
        }
        Twins.Maker second = () -> Check.told(5, "a c 3;c d 3;a d 3;");
        Twins.refused("23: the second is not joined", second, STATE, x -> x.corner(0, 1, 2, 0));
        Twins.refused("23: the first is not joined", second, STATE, x -> x.corner(1, 2, 3, 0));
        Twins.refused("23: a TOWN that is not joined", () -> Check.told(5, FOUR), NONE, x -> x.corner(0, 1, 2, 14));
        Twins.refused("23: two TOWNS have no three", () -> Check.told(2, "a b 2;"), BAD, x -> x.corner(0, 1, 2, 0));
        Check.due("23: the last of three", Check.told(3, "a b 2;b c 2;").corner(0, 1, 2, 12), 2);
    }

    private static HourRoads new5() {
        HourRoads x = new HourRoads();
        x.towns(5);
        return x;
    }

    private static void best(int n, String text, int gain, int three) {
        HourRoads x = Check.told(n, text);
        Check.due("24: BEST of '" + text + "'", x.best(0), gain);
        Check.due("24: the three of '" + text + "'", x.best(1), three);
    }

    private static void best() {
        best(4, FOUR, 2, 8 + 2);
        best(4, "a b 4;a c 4;b c 4;", NONE, NONE);
        best(4, "", NONE, NONE);
        best(2, "a b 4;", NONE, NONE);
        best(3, "a b 2;b c 2;c a 2;", NONE, NONE);
        best(8, "e f 4;e g 4;e h 4;f g 4;f h 4;g h 4;", 2, 64 * 4 + 8 * 5 + 6);
        best(4, LESS, 1, 8 + 2);
        best(8, LESS + "e f 4;e g 4;e h 4;f g 4;f h 4;g h 4;", 2, 64 * 4 + 8 * 5 + 6);
        best(8, "e f 4;e g 4;f g 4;h e 4;h f 4;h g 3;" + FOUR, 2, 8 + 2);
        best(8, FOUR + "e f 4;e g 4;e h 4;f g 4;f h 4;g h 4;", 2, 8 + 2);
        best(5, "a b4;a c4;a d4;a e4;b c4;b d4;b e4;c d4;c e4;d e4;", 5, 8 + 2);
        for (int what : new int[] {MIN, -1, 2, 3, MAX}) {
            Towns.refusedEverywhere("24: best(" + what + ")", BAD, x -> x.best(what));
        }
        for (int what = 0; what < 2; what++) {
            int asked = what;
            Twins.refused("24: no HOURS", HourRoads::new, NONE, x -> x.best(asked));
            Twins.refused("24: a GAIN of 0", () -> Check.told(3, "a b 4;b c 4;a c 4;"), NONE, x -> x.best(asked));
            Twins.refused("24: a GAIN below 0", () -> Check.told(3, "a b 4;b c 4;"), NONE, x -> x.best(asked));
        }
    }

    // ---- 25

    private static final String RING = "a b 3;b c 3;a c 4;c d 5;";

    private static void shut(int n, String text, int many, int bits) {
        HourRoads x = Check.told(n, text);
        Check.due("25: how many of '" + text + "'", x.shut(0), many);
        Check.due("25: the ROADS of '" + text + "'", x.shut(1), bits);
        x.season(2);
        Check.due("25: in winter, of '" + text + "'", x.shut(1), bits);
    }

    private static void shut() {
        shut(4, "", 0, 0);
        shut(4, RING, 0, 0);
        shut(4, RING + "a c 4 winter;", 0, 0);
        shut(4, RING + "a c 1 to 4 winter;", 0, 0);
        shut(4, RING + "a c 1 to 3 winter;", NONE, NONE);
        shut(4, RING + "a c 4 to 9 winter;", 0, 0);
        shut(4, RING + "a c 5 to 9 winter;", 1, 2);
        shut(4, RING + "a c 5 to 6 winter;", 1, 2);
        shut(4, RING + "a c 5 winter;", NONE, NONE);
        shut(4, RING + "a c 6 to 9 winter;", 1, 2);
        shut(4, RING + "a c 7 to 9 winter;", NONE, NONE);
        shut(4, RING + "c d 5 winter;", 0, 0);
        shut(4, RING + "c d 6 winter;", NONE, NONE);
        shut(5, RING + "a e 9 winter;", NONE, NONE);
        shut(4, RING + "a c 9 summer;", STATE, STATE);
        shut(3, "a b 2 winter;", NONE, NONE);
        shut(4, "a c 5 to 9 winter;" + RING, 1, 2);
        shut(4, "b c 5 to 9 winter;a b 2;a c 3;b c 4;", 1, 4);
        shut(5, "a b 2;a c 2;a d 2;c e 3;e d 3;a d 2 winter;c d 5 to 9 winter;", 1, 2);
        shut(4, "a b 3 to 9 winter;" + RING + "a c 4 to 6 winter;", 0, 0);
        shut(4, "a b 1;b c 1;c d 1;d a 1;a b 3 winter;c d 3 winter;", NONE, NONE);
        String square = "a b 2;b c 2;c d 2;d a 2;a c 3;b d 3;";
        shut(4, square + "a b 5 winter;", 1, 1);
        shut(4, square + "a b 6 winter;", 3, 1 + 2 + 16);
        shut(4, square + "a b 7 winter;", NONE, NONE);
        shut(4, square + "a b 8 winter;", 3, 1 + 4 + 8);
        shut(4, square + "a b 6 to 8 winter;", 3, 1 + 4 + 8);
        shut(4, square + "a b 2 to 9 winter;", 0, 0);
        HourRoads x = Check.told(4, RING + "a c 7 winter;a c 6 winter;");
        Check.due("25: two that bar each other", x.shut(0), NONE);
        x.doubt(4, true);
        Check.due("25: one is DOUBTED", x.shut(1), 2);
        x.doubt(5, true);
        Check.due("25: no HOUR of winter", x.shut(1), 0);
        x.doubt(5, false);
        x.doubt(1, true);
        Check.due("25: a DOUBTED HOUR makes no ROAD", x.shut(0), NONE);
        HourRoads winter = Check.told(4, "a b 3;a c 4;b c 3;a c 6 winter;a b 9 winter;a b 3 winter;");
        winter.season(2);
        Check.due("25: winter can not be, that does not matter", winter.shut(0), NONE);
        Check.due("25: it can not", winter.can(), 0);
    }

    /** 12 at most, the last of which is shut. */
    private static void shutSearched() {
        HourRoads x = Check.told(8, pairs(11, 3) + "g h1to3;g h9to99winter;");
        Check.due("25: twelve ROADS", x.roads(), 12);
        Check.due("25: one is enough", x.shut(0), NONE);
        Check.tell(x, pairs(11, 3) + "g h2;g h3to99winter;");
        Check.due("25: the twelfth", x.shut(1), 1 << 11);
        Check.due("25: alone", x.shut(0), 1);
        Check.tell(x, pairs(11, 3) + "g h2;a b4to99winter;g h3to99winter;");
        Check.due("25: the first and the twelfth", x.shut(1), 1 + (1 << 11));
        Check.due("25: two", x.shut(0), 2);
    }

    private static void shutRefused() {
        for (int what : new int[] {MIN, -1, 2, 3, MAX}) {
            Towns.refusedEverywhere("25: shut(" + what + ")", BAD, x -> x.shut(what));
        }
        Twins.Maker many = () -> Check.told(8, pairs(13, 3));
        Twins.Maker manyInVain = () -> Check.told(8, pairs(13, 3) + "a b 1 winter;");
        Twins.Maker summerNot = () -> Check.told(4, "a b 3 summer;a b 4;c d 9 winter;");
        Twins.Maker inVain = () -> Check.told(4, "c d 9 winter;");
        for (int what = 0; what < 2; what++) {
            int asked = what;
            Twins.refused("25: 13 ROADS", many, STATE, x -> x.shut(asked));
            Twins.refused("25: 13 ROADS, and none explain it", manyInVain, STATE, x -> x.shut(asked));
            Twins.refused("25: summer can not be", summerNot, STATE, x -> x.shut(asked));
            Twins.refused("25: none explain it", inVain, NONE, x -> x.shut(asked));
        }
        Twins.refused("25: 13 ROADS, and the number is not as told", many, BAD, x -> x.shut(2));
        Check.due("25: twelve", Check.told(8, pairs(12, 3)).shut(0), 0);
        HourRoads x = summerNot.make();
        x.season(2);
        Check.due("25: winter can be, summer can not", x.can() * 10 + x.shut(0), 10 + STATE);
        HourRoads y = many.make();
        y.doubt(12, true);
        Check.due("25: twelve are left", y.shut(0), 0);
    }

    // ---- 17 to 25

    /** What was told, asked and refused before leaves no trace in the answers. */
    private static void toldBefore() {
        String[] texts = {pairs(24, 3), RING + "a c 7 winter;", "", LESS, RING + "a c 6 winter;", pairs(12, 2) + "g h 9;",
            "a b 1;a b 2 by 1;a b 3 by 2;", FOUR + "a b 9 winter;", "a b 3;b c 3;a c 4 winter;", "c d 5;c d 4 by 3;",
            "a b 1;a c 1;b c 3;", "a b 2;b c 2;c d 2;d a 2;a c 3;b d 3;a b 8 winter;",
            RING + "c d 6 to 99 winter;"};
        for (int i = 0; i < texts.length; i++) {
            String latest = texts[i];
            for (int j = 0; j < texts.length; j++) {
                String before = texts[j];
                Twins.alike("17 to 25: '" + latest + "' behind '" + before + "'", () -> Check.told(8, latest), () -> {
                    HourRoads x = Check.told(8, before);
                    askAll(x);
                    Check.tell(x, latest);
                    return x;
                });
            }
        }
    }

    private static void askAll(HourRoads x) {
        for (int what = 0; what < 3; what++) {
            x.wrong(what);
            x.writers(what);
            x.shut(what);
            x.best(what);
            x.bars(what);
            x.corner(0, 1, 2, what);
        }
    }
}
