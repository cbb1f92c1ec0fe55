/** Promises 10 to 16 by hand: what a land bears, its spans, what bars it, whom to ask. */
public final class LandsTest {
    private static final int BAD = HourRoads.BAD;
    private static final int STATE = HourRoads.STATE;
    private static final int NONE = HourRoads.NONE;

    private LandsTest() {
    }

    public static void main(String[] args) {
        canAndLongest();
        shortest();
        must();
        bars();
        rows();
        ask();
        heaps();
        fullBook();
        Check.end("LandsTest");
    }

    private static void canAndLongest() {
        HourRoads x = Check.told(5, "a b 5 to 9;b c 4;a c 13;d e 9999;");
        Check.due("10: LONG is LEAST", x.can(), 1);
        Check.due("11: longest(0, 2)", x.longest(0, 2), 13);
        Check.due("11: longest(2, 0)", x.longest(2, 0), 13);
        Check.due("11: longest(3, 4)", x.longest(3, 4), 9999);
        Check.due("11: not joined", x.longest(0, 3), NONE);
        for (int[] p : new int[][] {{0, 0}, {0, 5}, {5, 0}, {-1, 0}, {0, -1}, {4, 4}, {-7, -7}}) {
            Check.due("11: longest(" + p[0] + ", " + p[1] + ")", x.longest(p[0], p[1]), BAD);
            Check.due("12: shortest(" + p[0] + ", " + p[1] + ")", x.shortest(p[0], p[1]), BAD);
            Check.due("13: must(" + p[0] + ", " + p[1] + ")", x.must(p[0], p[1]), BAD);
        }
        Check.tell(x, "a b 5 to 9;b c 4;a c 14;");
        Check.due("10: LONG is below LEAST", x.can(), 0);
        Check.due("11: it is told all the same", x.longest(0, 2), 13);
        Check.tell(x, "a b 5;a b 6;");
        Check.due("10: two that differ", x.can(), 0);
        Check.tell(x, "a b 5 to 8;a b 8 to 9;");
        Check.due("10: two that meet", x.can(), 1);
        Check.due("11: the least MOST", x.longest(0, 1), 8);
        HourRoads chain = Check.told(8,
            "a b 9999;b c 9999;c d 9999;d e 9999;e f 9999;f g 9999;g h 9999;");
        Check.due("11: the longest of all", chain.longest(7, 0), 7 * 9999);
    }

    private static void shortest() {
        HourRoads x = Check.told(4, "a b 20 to 30;b c 3 to 5;c d 100 to 200;");
        Check.due("12: told ends", x.shortest(0, 1), 20);
        Check.due("12: less what the other may be", x.shortest(0, 2), 15);
        Check.due("12: the other way round", x.shortest(2, 0), 15);
        Check.due("12: far beyond", x.shortest(0, 3), 65);
        Check.due("12: at least 1", Check.told(3, "a b 4;b c 4;").shortest(0, 2), 1);
        HourRoads two = Check.told(4, "a b 20;c d 30;");
        Check.due("12: another heap's hours say nothing", two.shortest(0, 1), 20);
        Check.due("12: not joined", two.shortest(0, 2), NONE);
        HourRoads not = Check.told(4, "a b 20;a b 30;");
        Check.due("12: it can not be", not.shortest(0, 1), STATE);
        Check.due("12: STATE ahead of NONE", not.shortest(0, 2), STATE);
        Check.due("12: BAD ahead of STATE", not.shortest(0, 4), BAD);
    }

    private static void must() {
        HourRoads x = Check.told(3, "a b 4;b c 4;a c 7;");
        Check.due("13: 7 is below 4 and 4", x.must(0, 2), 1);
        Check.tell(x, "a b 4;b c 4;a c 8;");
        Check.due("13: 8 is 4 and 4", x.must(0, 2), 0);
        Check.due("13: the sides must", x.must(0, 1), 1);
        Check.due("13: from the other end", x.must(1, 0), 1);
        Check.tell(x, "a b 4;b c 3 to 4;a c 8;");
        Check.due("13: it can not be", x.must(0, 1), 1);
        Check.tell(x, "a b 4;b c 3 to 5;a c 8;");
        Check.due("13: by SHORTS", x.must(0, 2), 0);
        Check.tell(x, "a b 4;b c 4;");
        Check.due("13: a pair nobody told", x.must(0, 2), 0);
        Check.due("13: 4 over a third by 1 and 4", x.must(0, 1), 1);
        Check.tell(x, "a b 5;b c 4;");
        Check.due("13: 5 over a third by 1 and 4", x.must(0, 1), 0);
        Check.tell(x, "a b 5;");
        Check.due("13: a third that is not joined", x.must(0, 1), 1);
        Check.due("13: not joined", x.must(0, 2), NONE);
        Check.tell(x, "a b 5;a b 6;");
        Check.due("13: it can not be", x.must(0, 2), STATE);
    }

    private static void bars() {
        HourRoads x = Check.told(4, "a b 9;b a 3;c d 8 to 9;d c 7;a b 8;");
        Check.due("14: the first that bars", x.bars(0), 0);
        Check.due("14: its row", x.bars(1), 1);
        Check.due("14: the hour of it", x.bars(10), 1);
        Check.due("14: no second one", x.bars(11), NONE);
        barsBeyond(x);
        x.doubt(0, true);
        Check.due("14: then the next", x.bars(0), 2);
        Check.due("14: by its own row", x.bars(10), 3);
        x.doubt(3, true);
        Check.due("14: then the last", x.bars(0), 4);
        x.doubt(4, true);
        Check.due("14: it can be", x.bars(0), NONE);
        Check.due("14: no row", x.bars(1), NONE);
        Check.due("14: nor an hour of it", x.bars(10), NONE);
        barsBeyond(x);
        barsBeyond(new HourRoads());
        barsBeyond(Check.told(8, "a b 1;b c 1;c d 1;d e 1;e f 1;f g 1;g h 1;a h 9;"));
    }

    /** BAD stands ahead of NONE, whether it can be or not. */
    private static void barsBeyond(HourRoads x) {
        for (int what : new int[] {Integer.MIN_VALUE, -1, 2, 9, 34, 35, 936239588, Integer.MAX_VALUE}) {
            Check.due("14: bars(" + what + ")", x.bars(what), BAD);
        }
        for (int what = 17; what < 34; what++) {
            Check.due("14: bars(" + what + "), an HOUR that the ROW has not", x.bars(what), NONE);
        }
    }

    private static void row(int n, String text, int... hours) {
        HourRoads x = Check.told(n, text);
        Check.due("14: row of " + text, x.bars(1), hours.length);
        for (int i = 0; i < hours.length; i++) {
            Check.due("14: hour " + i + " of the row of " + text, x.bars(10 + i), hours[i]);
        }
        Check.due("14: the end of the row of " + text, x.bars(10 + hours.length), NONE);
    }

    private static void rows() {
        row(3, "a c 9;a b 2;b c 3;", 1, 2);
        row(3, "c a 9;c b 2;b a 3;", 2, 1);
        row(4, "a d 9;a b 1;b c 1;c d 1;b d 2;", 1, 4);
        row(4, "a d 9;a b 1;b c 1;c d 1;b d 3;", 1, 2, 3);
        row(4, "a d 9;b d 2;c d 2;a c 2;a b 2;", 3, 2);
        row(4, "d a 9;b d 2;c d 2;a c 2;a b 2;", 3, 2);
        row(4, "a d 9;c d 2;b d 2;a b 2;a c 2;", 3, 1 + 1);
        row(3, "a c 9;a b 2;a b 2;b c 3;b c 3;", 1, 3);
        row(3, "a c 9;a b 1 to 3;a b 2;b c 3 to 4;b c 3;", 2, 4);
        row(8, "a h 99;a b 1;b c 1;c d 1;d e 1;e f 1;f g 1;g h 1;", 1, 2, 3, 4, 5, 6, 7);
        row(3, "a c 9;a b 2 summer;b c 3;a b 1 winter;", 1, 2);
    }

    private static void ask() {
        HourRoads x = Check.told(4, "a b 10;b c 10;c d 10;");
        Check.due("15: the widest", x.ask(0), 3);
        Check.due("15: its width", x.ask(1), 29);
        x.doubt(2, true);
        Check.due("15: a doubted hour tells no pair", x.ask(0), 2);
        Check.tell(x, "a b 10;b c 10;c d 10;a d 5 to 40;");
        Check.due("15: of several the least", x.ask(0), 2);
        Check.due("15: its width", x.ask(1), 19);
        Check.tell(x, "a b 1;b c 1 to 2;");
        Check.due("15: small widths too", x.ask(1), 2);
        Check.tell(x, "a b 3;");
        Check.due("15: all joined pairs are told", x.ask(0), NONE);
        Check.due("15: no width", x.ask(1), NONE);
        Check.due("15: ask(2)", x.ask(2), BAD);
        Check.due("15: ask(-1)", x.ask(-1), BAD);
        Check.tell(x, "a b 3;a b 4;b c 5;");
        Check.due("15: it can not be", x.ask(0), STATE);
        Check.due("15: no width then", x.ask(1), STATE);
        Check.due("15: BAD ahead", x.ask(2), BAD);
        HourRoads high = Check.told(8, "g f 10;h f 12;a b 3;");
        Check.due("15: 8 times the less", high.ask(0), 8 * 6 + 7);
        Check.due("15: less SHORT", high.ask(1), 22 - 2);
    }

    /** All 24 HOURS, the last of which decides. */
    private static void fullBook() {
        String some = "a b1to9;b c1to9;".repeat(11) + "a b1to9;";
        HourRoads x = Check.told(4, some + "a d5;");
        Check.due("5: as many as there may be", x.count(1), 24);
        Check.due("11: by the last", x.longest(2, 3), 23);
        Check.due("12: by the last", x.shortest(1, 3), 1);
        Check.due("13: of the last", x.must(0, 3), 0);
        Check.due("15: of all", x.ask(0), 8 * 2 + 3);
        Check.due("15: not those of the last", x.ask(1), 22);
        Check.due("21: of one writer", x.part(0, 1, 4), 0);
        Check.due("25: no winter", x.shut(0), 0);
        Check.due("28: none is within", x.judge(0), 24);
        Check.due("28: the first", x.judge(2), 0);
        Check.due("28: no way, no miss", x.judge(1), 0);
        Check.due("29: three roads", x.draw(), 3);
        Check.due("28: all are within", x.judge(2), NONE);
        Check.due("8: the last is doubted", x.doubt(23, true), 0);
        Check.due("16: the fourth town is alone", x.heaps(), 2);
        Check.due("5: told anew", Check.tell(x, some + "c a99;"), 24);
        Check.due("14: the last bars", x.bars(0), 23);
        Check.due("14: by a row of two", x.bars(1), 2);
        Check.due("14: from the lesser town", x.bars(10) * 100 + x.bars(11), 1);
        Check.due("19: too many", x.wrong(0), STATE);
        Check.due("20: one writer", x.writers(1), 1);
    }

    private static void heaps() {
        HourRoads x = Check.told(8, "h a 3;b c 4 summer;c d 4 winter;");
        Check.due("16: in summer", x.heaps(), 6);
        x.season(2);
        Check.due("16: in winter", x.heaps(), 6);
        x.doubt(2, true);
        Check.due("16: one is doubted", x.heaps(), 7);
        x.doubt(0, true);
        Check.due("16: each for itself", x.heaps(), 8);
        Check.due("16: one heap", Check.told(4, "a d 1;b d 1;c d 1;").heaps(), 1);
    }
}
