/** The edges that the document names for lands: promises 10 to 16. */
public final class EdgesLandsTest {
    private static final int BAD = HourRoads.BAD;
    private static final int STATE = HourRoads.STATE;
    private static final int NONE = HourRoads.NONE;
    private static final int MIN = Integer.MIN_VALUE;
    private static final int MAX = Integer.MAX_VALUE;
    /** Seven HOURS in a row, through all eight TOWNS. */
    private static final String CHAIN = "a b 9999;b c 9999;c d 9999;d e 9999;e f 9999;f g 9999;g h 9999;";

    private EdgesLandsTest() {
    }

    public static void main(String[] args) {
        can();
        longest();
        pairsThatAreNone();
        shortest();
        must();
        firstRefusals();
        bars();
        barsRows();
        ask();
        askRefused();
        heaps();
        Check.end("EdgesLandsTest");
    }

    private static void can(String text, int due) {
        Check.due("10: can() of '" + text + "'", Check.told(8, text).can(), due);
    }

    private static void can() {
        can("", 1);
        can("a b 1;", 1);
        can("a b 9999;", 1);
        can("a b 7;b a 7;", 1);
        can("a b 7;b a 8;", 0);
        can("a b 8;b a 7;", 0);
        can("a b 7 to 8;b a 8 to 9;", 1);
        can("a b 7 to 8;b a 9 to 10;", 0);
        can("a b 4;b c 5;a c 9;", 1);
        can("a b 4;b c 5;a c 10;", 0);
        can("a b 1 to 4;b c 1 to 5;a c 9 to 99;", 1);
        can("a b 1 to 4;b c 1 to 5;a c 10 to 99;", 0);
        can("a c 1;b c 1;a b 2;", 1);
        can("a c 1;b c 1;a b 3;", 0);
        can("a b 1428;b c 1428;c d 1428;d e 1428;e f 1428;f g 1428;g h 1428;a h 9996;", 1);
        can("a b 1428;b c 1428;c d 1428;d e 1428;e f 1428;f g 1428;g h 1428;a h 9997;", 0);
        can("a b 1 summer;a b 9 winter;", 1);
        can("a b 1 summer;a b 9;", 0);
        HourRoads x = Check.told(2, "a b 1 summer;a b 9;");
        x.season(2);
        Check.due("10: those that COUNT in winter", x.can(), 1);
        x.season(1);
        x.doubt(0, true);
        Check.due("10: those that are not DOUBTED", x.can(), 1);
        x.doubt(0, false);
        Check.due("10: not any more", x.can(), 0);
    }

    private static void longest() {
        HourRoads x = Check.told(8, CHAIN);
        for (int a = 0; a < 8; a++) {
            for (int b = 0; b < 8; b++) {
                int due = a == b ? BAD : 9999 * Math.abs(a - b);
                Check.due("11: longest(" + a + ", " + b + ")", x.longest(a, b), due);
            }
        }
        x.doubt(3, true);
        Check.due("11: as far as HOURS lead", x.longest(0, 3), 3 * 9999);
        Check.due("11: no row leads there", x.longest(3, 4), NONE);
        Check.due("11: nor from end to end", x.longest(7, 0), NONE);
        HourRoads y = Check.told(3, "a b 2 to 5;b c 3 to 6;a c 4 to 11;");
        Check.due("11: as long over the third", y.longest(0, 2), 11);
        Check.tell(y, "a b 2 to 5;b c 3 to 6;a c 4 to 12;");
        Check.due("11: less over the third", y.longest(0, 2), 11);
        Check.tell(y, "a b 2 to 5;b c 3 to 6;a c 4 to 10;");
        Check.due("11: less without it", y.longest(0, 2), 10);
        Check.tell(y, "a b 9;b a 4;a b 7;");
        Check.due("11: the least of several, though it can not be", y.longest(1, 0), 4);
    }

    /** No such TOWN, or one and the same: in any state, with nothing changed. */
    private static void pairsThatAreNone() {
        int[][] none = {{0, 0}, {3, 3}, {-1, 0}, {0, -1}, {-1, -1}, {0, 8}, {8, 0}, {8, 8}, {MAX, 0}, {0, MIN},
            {MIN, MIN}, {1, 9}};
        for (int[] p : none) {
            String pair = "(" + p[0] + ", " + p[1] + ")";
            Towns.refusedEverywhere("11: longest" + pair, BAD, x -> x.longest(p[0], p[1]));
            Towns.refusedEverywhere("12: shortest" + pair, BAD, x -> x.shortest(p[0], p[1]));
            Towns.refusedEverywhere("13: must" + pair, BAD, x -> x.must(p[0], p[1]));
        }
        for (int n = 2; n <= 8; n++) {
            HourRoads x = new HourRoads();
            x.towns(n);
            Check.due("11: the last of " + n, x.longest(n - 1, 0), NONE);
            Check.due("11: one beyond " + n, x.longest(n, 0), BAD);
            Check.due("12: the last of " + n, x.shortest(0, n - 1), NONE);
            Check.due("12: one beyond " + n, x.shortest(0, n), BAD);
            Check.due("13: the last of " + n, x.must(0, n - 1), NONE);
            Check.due("13: one beyond " + n, x.must(0, n), BAD);
        }
    }

    private static void shortest(String text, int a, int b, int due) {
        HourRoads x = Check.told(8, text);
        String call = "12: SHORT of " + a + " and " + b + " in '" + text + "'";
        Check.due(call, x.shortest(a, b), due);
        Check.due(call + ", the other way", x.shortest(b, a), due);
    }

    private static void shortest() {
        shortest("a b 10;b c 1 to 8;", 0, 2, 2);
        shortest("a b 10;b c 1 to 9;", 0, 2, 1);
        shortest("a b 10;b c 1 to 10;", 0, 2, 1);
        shortest("a b 10;b c 1 to 11;", 0, 2, 1);
        shortest("a b 1;", 0, 1, 1);
        shortest("a b 9999;", 0, 1, 9999);
        shortest("a b 1 to 9999;", 0, 1, 1);
        shortest("a b 2 to 9999;", 0, 1, 2);
        shortest("a b 3 to 9;a b 5 to 8;a b 4 to 6;", 0, 1, 5);
        shortest("c d 20;a c 3;b d 4;", 0, 1, 13);
        shortest("d c 20;a c 3;b d 4;", 0, 1, 13);
        shortest("c d 20;a d 3;b c 4;", 0, 1, 13);
        shortest("d c 20;a d 3;b c 4;", 0, 1, 13);
        shortest("c d 20;a c 3;b d 4;a b 14 to 99;", 0, 1, 14);
        shortest("c d 20;a c 3;b d 4;a b 12 to 99;", 0, 1, 13);
        shortest("a h 9999;a b 1;b c 1;", 2, 7, 9997);
        shortest("a b 5;c d 9999;", 0, 1, 5);
        HourRoads x = Check.told(3, "a b 10 winter;a b 2 to 30;b c 3;");
        Check.due("12: what does not COUNT says nothing", x.shortest(0, 1), 2);
        x.season(2);
        Check.due("12: in winter it does", x.shortest(0, 1), 10);
        Check.due("12: for others too", x.shortest(0, 2), 7);
        x.doubt(0, true);
        Check.due("12: not if it is DOUBTED", x.shortest(0, 1), 2);
    }

    private static void must(String text, int a, int b, int due) {
        HourRoads x = Check.told(8, text);
        String call = "13: MUST of " + a + " and " + b + " in '" + text + "'";
        Check.due(call, x.must(a, b), due);
        Check.due(call + ", the other way", x.must(b, a), due);
    }

    private static void must() {
        must("a b 4;b c 4;a c 7;", 0, 2, 1);
        must("a b 4;b c 4;a c 8;", 0, 2, 0);
        must("a b 4 to 5;b c 4;a c 8;", 0, 2, 0);
        must("a b 5 to 6;b c 4;a c 8;", 0, 2, 1);
        must("a c 1;", 0, 2, 1);
        must("a c 9999;", 0, 2, 1);
        must("a b 1;b c 1;a c 1;", 0, 2, 1);
        must("a b 1;b c 1;a c 2;", 0, 2, 0);
        must("a b 1;b c 1;", 0, 2, 0);
        must("a b 3;b c 1;", 0, 1, 0);
        must("a b 3;b c 3;", 0, 1, 1);
        must("a b 3;b c 1 to 2;", 0, 1, 0);
        must("a b 3;b c 1 to 3;", 0, 1, 0);
        must("h g 5;h f 5;f g 5;h e 2;g e 3;", 6, 7, 0);
        must("h g 5;h f 5;f g 5;h e 3;g e 3;", 6, 7, 1);
        must("a b 9;c d 1;", 0, 1, 1);
        must("a b 4;a c 4;b c 8;", 1, 2, 0);
        must("a b 4;a c 5;b c 8;", 1, 2, 1);
    }

    /** Where two refusals fit, the first one told: BAD, STATE, NONE. */
    private static void firstRefusals() {
        Twins.refused("12: it can not be, and they are not joined", Towns::quarrel, STATE, x -> x.shortest(0, 4));
        Twins.refused("12: it can not be", Towns::quarrel, STATE, x -> x.shortest(0, 1));
        Twins.refused("12: it can not be, and there is no such TOWN", Towns::quarrel, BAD, x -> x.shortest(0, 5));
        Twins.refused("12: it can not be, and it is the same", Towns::quarrel, BAD, x -> x.shortest(1, 1));
        Twins.refused("12: not joined", Towns::rich, NONE, x -> x.shortest(0, 4));
        Twins.refused("13: it can not be, and they are not joined", Towns::quarrel, STATE, x -> x.must(4, 0));
        Twins.refused("13: it can not be", Towns::quarrel, STATE, x -> x.must(0, 1));
        Twins.refused("13: it can not be, and there is no such TOWN", Towns::quarrel, BAD, x -> x.must(5, 0));
        Twins.refused("13: it can not be, and it is the same", Towns::quarrel, BAD, x -> x.must(1, 1));
        Twins.refused("13: not joined", Towns::rich, NONE, x -> x.must(4, 0));
        Twins.refused("11: not joined", Towns::rich, NONE, x -> x.longest(4, 0));
        Twins.refused("11: not joined, and it can not be", Towns::quarrel, NONE, x -> x.longest(0, 4));
        Check.due("11: joined, though it can not be", Towns.quarrel().longest(0, 2), 9);
    }

    private static void bars() {
        for (int what : new int[] {MIN, -1, 2, 3, 9, 34, 35, 936239588, MAX}) {
            Towns.refusedEverywhere("14: bars(" + what + ")", BAD, x -> x.bars(what));
        }
        for (int what : new int[] {0, 1, 10, 11, 17, 32, 33}) {
            Twins.refused("14: it CAN BE, bars(" + what + ")", Towns::rich, NONE, x -> x.bars(what));
            Twins.refused("14: no HOURS, bars(" + what + ")", HourRoads::new, NONE, x -> x.bars(what));
        }
        Twins.refused("14: HOUR i that the ROW has not", Towns::quarrel, NONE, x -> x.bars(11));
        Twins.refused("14: the last that a ROW could have", Towns::quarrel, NONE, x -> x.bars(33));
        String none = "a b1to9;".repeat(23);
        HourRoads last = Check.told(2, none + "b a10;");
        Check.due("14: the last of 24 BARS", last.bars(0), 23);
        Check.due("14: by the first", last.bars(10), 0);
        HourRoads first = Check.told(2, "a b10;" + "a b1to9;".repeat(22) + "b a1to8;");
        Check.due("14: the first of 24 BARS", first.bars(0), 0);
        Check.due("14: by the last", first.bars(10), 23);
        Check.due("14: alone", first.bars(1), 1);
    }

    private static void row(String text, int bars, int... row) {
        HourRoads x = Check.told(8, text);
        Check.due("14: the HOUR that BARS in '" + text + "'", x.bars(0), bars);
        Check.due("14: its ROW in '" + text + "'", x.bars(1), row.length);
        for (int i = 0; i < 24; i++) {
            Check.due("14: HOUR " + i + " of the ROW in '" + text + "'", x.bars(10 + i),
                i < row.length ? row[i] : NONE);
        }
    }

    private static void barsRows() {
        row("a b 1;b c 1;c d 1;d e 1;e f 1;f g 1;g h 1;h a 9;", 7, 0, 1, 2, 3, 4, 5, 6);
        row("g h 1;f g 1;e f 1;d e 1;c d 1;b c 1;a b 1;a h 8;", 7, 6, 5, 4, 3, 2, 1, 0);
        row("a b 3;b a 4;b a 5;", 1, 0);
        row("a b 3;b a 5;b a 4;", 1, 0);
        row("a b 9 to 99;a b 8;", 0, 1);
        row("c b 2;a b 1;a c 4;", 2, 1, 0);
        row("c b 2;a b 1;c a 4;", 2, 1, 0);
        row("a b 2;b c 2;a c 4;a c 5;", 3, 2);
        row("a b 2;b c 2;a c 5;a c 4;", 2, 3);
        row("b d 2;a b 2;a c 2;c d 2;a d 5;", 4, 1, 0);
        row("b d 2;c d 2;a c 2;a b 2;a d 5;", 4, 2, 1);
        row("a b 2;b d 2;b d 2;a b 2;a d 5;", 4, 0, 1);
        row("a b 1;b c 1;c d 1;a e 1;e d 2;a d 4;", 5, 3, 4);
        row("a b 1;b c 1;c d 1;a e 1;e d 3;a d 4;", 5, 0, 1, 2);
        row("a b 1 winter;a b 2;b c 2;a c 5;", 3, 1, 2);
        row("a b 7;c d 7;c d 8;a b 8;", 2, 1);
        row("a b 1;a c 1;b c 3;", 2, 0, 1);
        row("d e 1;a c 1;b a 1;b c 3;", 3, 2, 1);
        row("d e 1;g a 1;a h 1;h g 3;", 3, 1, 2);
    }

    private static void ask(int n, String text, int pair, int width) {
        HourRoads x = Check.told(n, text);
        Check.due("15: whom to ask in '" + text + "'", x.ask(0), pair);
        Check.due("15: the width in '" + text + "'", x.ask(1), width);
    }

    private static void ask() {
        ask(4, "a b 1;b c 1;c d 3;a d 5;", 2, 0);
        ask(4, "a b 1;b c 1;c d 3;a d 4 to 5;", 2, 1);
        ask(3, "a b 1;b c 1;", 2, 1);
        ask(3, "a b 1;", NONE, NONE);
        ask(2, "a b 1 to 9999;", NONE, NONE);
        ask(3, "a b 1;b c 1;c a 1;", NONE, NONE);
        ask(4, "", NONE, NONE);
        ask(8, "g f 10;h f 10;", 8 * 6 + 7, 19);
        ask(8, CHAIN, 7, 7 * 9999 - 1);
        ask(4, "a b 2;c d 2;b c 2;", 3, 5);
        ask(6, "a b 2;b c 2;d e 2;e f 2;", 2, 3);
        ask(6, "a b 2;b c 2;d e 2;e f 3;", 8 * 3 + 5, 4);
        ask(6, "a b 2;b c 3;d e 2;e f 2;", 2, 4);
        ask(4, "a b 4;b c 4;b d 4;", 2, 7);
        HourRoads x = Check.told(3, "a b 4;b c 4;a c 7 winter;");
        Check.due("15: a pair of an HOUR that does not COUNT", x.ask(0), 2);
        x.season(2);
        Check.due("15: all are of one that does", x.ask(0), NONE);
        x.doubt(2, true);
        Check.due("15: it is DOUBTED", x.ask(0), 2);
    }

    private static void askRefused() {
        for (int what : new int[] {MIN, -1, 2, 3, 10, MAX}) {
            Towns.refusedEverywhere("15: ask(" + what + ")", BAD, x -> x.ask(what));
        }
        Twins.Maker noPair = () -> Check.told(2, "a b 3;a b 4;");
        for (int what = 0; what < 2; what++) {
            int asked = what;
            Twins.refused("15: it can not be, ask(" + what + ")", Towns::quarrel, STATE, x -> x.ask(asked));
            Twins.refused("15: nor is there a pair, ask(" + what + ")", noPair, STATE, x -> x.ask(asked));
            Twins.refused("15: no pair, ask(" + what + ")", HourRoads::new, NONE, x -> x.ask(asked));
        }
    }

    private static void heaps() {
        for (int n = 2; n <= 8; n++) {
            HourRoads x = new HourRoads();
            x.towns(n);
            Check.due("16: each for itself of " + n, x.heaps(), n);
            StringBuilder text = new StringBuilder();
            for (int t = 1; t < n; t++) {
                text.append((char) ('a' + t)).append(" a 3;");
                Check.tell(x, text.toString());
                Check.due("16: " + t + " joined to the first of " + n, x.heaps(), n - t);
            }
        }
        Check.due("16: four of two", Check.told(8, "a h 1;b g 1;c f 1;d e 1;").heaps(), 4);
        Check.due("16: two that meet late", Check.told(8, "a b 1;c d 1;e f 1;g h 1;b h 1;d f 1;").heaps(), 2);
        Check.due("16: though it can not be", Check.told(3, "a b 1;a b 2;").heaps(), 2);
        HourRoads x = Check.told(4, "a b 1 summer;c d 1 winter;b c 1 winter;");
        Check.due("16: in summer", x.heaps(), 3);
        x.season(2);
        Check.due("16: in winter", x.heaps(), 2);
    }
}
