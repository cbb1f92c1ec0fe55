/** Promises 1 to 9 by hand: towns, the tape, its text, hours. */
public final class TownsTest {
    private TownsTest() {
    }

    public static void main(String[] args) {
        newObject();
        towns();
        tape();
        texts();
        faults();
        the25th();
        tellingAnew();
        hour();
        doubtAndSeason();
        Check.end("TownsTest");
    }

    private static void newObject() {
        HourRoads x = new HourRoads();
        int[] counts = {4, 0, 0, 0, 0, 1, 0, 0, HourRoads.NONE};
        for (int what = 0; what < counts.length; what++) {
            Check.due("1: count(" + what + ")", x.count(what), counts[what]);
        }
        Check.due("1: fault()", x.fault(), 0);
        Check.due("1: can()", x.can(), 1);
        Check.due("1: heaps()", x.heaps(), 4);
        Check.due("1: way(0, 1)", x.way(0, 1), HourRoads.NONE);
        for (int k = 0; k < 4; k++) {
            Check.due("1: lay of sheet " + k, x.lay(k, 0, 0), -11);
        }
        HourRoads y = new HourRoads();
        Check.tell(y, "a b 3;");
        Check.due("1: another object's hours", x.count(1), 0);
    }

    private static void towns() {
        HourRoads x = Check.told(5, "a b 3;b e 4 winter;");
        x.season(2);
        x.net(0, 4, 9);
        x.sheet(0, 1, 7);
        Check.feed(x, "abc");
        for (int v : new int[] {1, 9, 0, -1, Integer.MIN_VALUE, Integer.MAX_VALUE}) {
            Check.due("2: towns(" + v + ")", x.towns(v), HourRoads.BAD);
        }
        Check.due("2: hours after BAD", x.count(1), 2);
        Check.due("2: season after BAD", x.count(5), 2);
        Check.due("2: roads after BAD", x.count(6), 1);
        Check.due("2: towns(5)", x.towns(5), 5);
        Check.due("2: hours", x.count(1), 0);
        Check.due("2: season", x.count(5), 1);
        Check.due("2: roads", x.count(6), 0);
        Check.due("2: way(0, 4)", x.way(0, 4), HourRoads.NONE);
        Check.due("2: longest(0, 1)", x.longest(0, 1), HourRoads.NONE);
        Check.due("2: the tape stays", x.count(7), 3);
        Check.due("2: the sheet stays", x.count(8), 7);
        Check.due("2: towns(2)", x.towns(2), 5);
        Check.due("2: towns(8)", x.towns(8), 2);
        Check.due("2: count(0)", x.count(0), 8);
        x.towns(3);
        x.end(0);
        Check.tell(x, "a d 3;");
        Check.due("2: the fault is told", x.fault(), 4);
        x.towns(4);
        Check.due("2: the fault stays", x.fault(), 4);
        x.net(0, 3, 7);
        x.towns(3);
        x.towns(4);
        Check.due("2: a road is gone with its town", x.net(0, 3, 0), 0);
    }

    private static void tape() {
        HourRoads x = new HourRoads();
        for (int i = 1; i <= 30; i++) {
            Check.due("3: feed", x.feed(0x6120622033203b20L), 8 * i);
        }
        Check.due("3: full", x.feed(0x2020202020202020L), HourRoads.FULL);
        Check.due("3: bytes", x.count(7), 240);
        Check.due("4: end(241)", x.end(241), HourRoads.BAD);
        Check.due("4: end(-1)", x.end(-1), HourRoads.BAD);
        Check.due("4: end(233)", x.end(233), 240);
        Check.due("3: nearly full", x.feed(0), HourRoads.FULL);
        Check.due("4: end(232)", x.end(232), 233);
        Check.due("3: just full", x.feed(0x6120622033203b20L), 240);
        Check.due("4: end(144)", x.end(144), 240);
        Check.due("4: end(145)", x.end(145), HourRoads.BAD);
        Check.due("5: hours()", x.hours(), 18);
        Check.due("5: the tape is empty", x.end(0), 0);
        x.feed(0xe100000000000020L);
        Check.due("3: a byte above 127", x.hours(), -10);
        Check.due("6: it is no token", x.fault(), 1);
    }

    private static void takes(int hours, String text) {
        HourRoads x = new HourRoads();
        Check.due("5: hours() of '" + text + "'", Check.tell(x, text), hours);
        Check.due("6: fault() of '" + text + "'", x.fault(), 0);
    }

    private static void texts() {
        takes(0, "");
        takes(0, "      ");
        takes(1, "a b5;");
        takes(1, "  a  b  5  ;  ");
        takes(1, "a b 0005;");
        takes(1, "a b1to9999by5summer;");
        takes(1, "a b 9999 to 9999;");
        takes(1, "a b 5 by 0000 winter;");
        takes(2, "d a 7;a d 7 summer;");
        takes(1, "b a 5 to 5 by 3;");
    }

    private static void refuses(int fault, int place, String text) {
        refuses(fault, place, 4, text);
    }

    private static void refuses(int fault, int place, int n, String text) {
        HourRoads x = new HourRoads();
        x.towns(n);
        Check.due("5: hours() of '" + text + "'", Check.tell(x, text), -10 - place);
        Check.due("6: fault() of '" + text + "'", x.fault(), fault);
        Check.due("5: the tape is empty", x.count(7), 0);
        Check.due("5: no hours", x.count(1), 0);
        Check.tell(x, "");
        Check.due("6: fault() of a good text later", x.fault(), 0);
    }

    private static void faults() {
        refuses(1, 0, "A b 5;");
        refuses(1, 3, "   ,");
        refuses(1, 1, "a\tb 5;");
        refuses(1, 1, "a.b 5;");
        refuses(1, 0, "12345");
        refuses(1, 4, "a b 00005;");
        refuses(1, 6, "a b 5;{");
        refuses(1, 9, "a b 5 to 12345;");
        refuses(1, 5, "a b 5-");
        refuses(2, 1, "a");
        refuses(2, 4, "a b ");
        refuses(2, 7, "a b 5  ");
        refuses(2, 8, "a b 5 to");
        refuses(2, 8, "a b 5 by");
        refuses(2, 12, "a b 5 winter");
        refuses(2, 0, ";");
        refuses(2, 0, "5");
        refuses(2, 0, "to");
        refuses(2, 0, "ab 5;");
        refuses(2, 2, "a bc 5;");
        refuses(2, 2, "a 5;");
        refuses(2, 2, "a ;");
        refuses(2, 4, "a b c;");
        refuses(2, 4, "a b to 5;");
        refuses(2, 6, "a b 5 6;");
        refuses(2, 6, "a b 5 c;");
        refuses(2, 6, "a b 5 tos;");
        refuses(2, 6, "a b 5 t;");
        refuses(2, 6, "a b 5 tp;");
        refuses(2, 6, "a b 5 summers;");
        refuses(2, 6, "a b 5 wintes;");
        refuses(2, 6, "a b 5 autumn;");
        refuses(2, 11, "a b 5 by 1 to 6;");
        refuses(2, 11, "a b 5 by 1 by 1;");
        refuses(2, 13, "a b 5 summer winter;");
        refuses(2, 13, "a b 5 winter winter;");
        refuses(2, 9, "a b 5 to by 3;");
        refuses(2, 9, "a b 5 by x;");
        refuses(2, 11, "a b 5 to 6 7;");
        refuses(3, 4, "a b 0;");
        refuses(3, 4, "a b 0000;");
        refuses(3, 9, "a b 7 to 6;");
        refuses(3, 9, "a b 7 to 0;");
        refuses(3, 9, "a b 7 by 6;");
        refuses(3, 9, "a b 7 by 9999;");
        refuses(4, 0, "e b 7;");
        refuses(4, 2, "a e 7;");
        refuses(4, 2, "b b 7;");
        refuses(4, 2, 2, "a c 7;");
        refuses(4, 0, 8, "i a 7;");
        refuses(4, 0, "z,");
        refuses(4, 2, "a a,");
        refuses(3, 4, "a b 0,");
        refuses(3, 4, "a b 0");
        refuses(3, 9, "a b 7 to 6,");
        refuses(2, 0, "xyz 5,");
        refuses(4, 16, "a b 3;b c 4;  d d 5;");
        HourRoads x = new HourRoads();
        x.towns(8);
        Check.due("5: h is a town of eight", Check.tell(x, "h g 3;"), 1);
    }

    private static void the25th() {
        String all = "a b1;".repeat(24);
        takes(24, all);
        takes(24, all + "   ");
        refuses(5, 120, all + "a");
        refuses(5, 120, all + "z");
        refuses(5, 121, all + " e a 5;");
        refuses(2, 120, all + "ab");
        refuses(2, 120, all + "7");
        refuses(2, 120, all + ";");
        refuses(1, 120, all + "!");
        refuses(4, 117, "a b1;".repeat(23) + "a a1;a b1;");
    }

    private static void tellingAnew() {
        HourRoads x = Check.told(4, "a b 3;b c 4;c d 5;");
        x.doubt(1, true);
        Check.due("5: a fault", Check.tell(x, "a b 9;a d 7;!"), -22);
        Check.due("5: those told stay", x.count(1), 3);
        Check.due("5: with their minutes", x.hour(0, 2), 3);
        Check.due("5: and what is doubted", x.hour(1, 6), 1);
        Check.due("5: and what counts", x.hour(1, 7), 0);
        Check.due("5: and their land", x.longest(0, 1), 3);
        x.doubt(1, false);
        Check.due("5: and the land after", x.longest(0, 2), 7);
        x.doubt(1, true);
        Check.due("5: a good text", Check.tell(x, "a d 7;b d 6;"), 2);
        Check.due("5: in place of what there was", x.longest(0, 1), 13);
        Check.due("5: none is doubted", x.count(3), 0);
        Check.due("5: nor the second", x.hour(1, 6), 0);
        Check.due("5: the third is gone", x.hour(2, 0), HourRoads.BAD);
        Check.feed(x, "a b");
        Check.feed(x, " 8;");
        Check.due("5: fed in pieces", x.hours(), 1);
        Check.due("5: an empty text tells none", x.hours(), 0);
        Check.due("5: nothing is joined then", x.heaps(), 4);
        x.season(2);
        Check.tell(x, "a b 3;");
        Check.due("5: the season stays", x.count(5), 2);
    }

    private static void hour() {
        HourRoads x = Check.told(4, "d b 12 to 340 by 5 winter;a c 7;");
        int[] first = {3, 1, 12, 340, 5, 2, 0, 0};
        int[] second = {0, 2, 7, 7, 0, 0, 0, 1};
        for (int what = 0; what < 8; what++) {
            Check.due("7: hour(0, " + what + ")", x.hour(0, what), first[what]);
            Check.due("7: hour(1, " + what + ")", x.hour(1, what), second[what]);
        }
        Check.due("7: hour(2, 0)", x.hour(2, 0), HourRoads.BAD);
        Check.due("7: hour(-1, 0)", x.hour(-1, 0), HourRoads.BAD);
        Check.due("7: hour(0, 8)", x.hour(0, 8), HourRoads.BAD);
        Check.due("7: hour(0, -1)", x.hour(0, -1), HourRoads.BAD);
        Check.due("7: hour(MAX, MIN)", x.hour(Integer.MAX_VALUE, Integer.MIN_VALUE), HourRoads.BAD);
        x.season(2);
        Check.due("7: in winter it counts", x.hour(0, 7), 1);
        Check.due("7: all the year", x.hour(1, 7), 1);
        x.doubt(1, true);
        Check.due("7: it is doubted", x.hour(1, 6), 1);
        Check.due("7: and does not count", x.hour(1, 7), 0);
    }

    private static void doubtAndSeason() {
        HourRoads x = Check.told(3, "a b 3 summer;a b 4 winter;b c 9;");
        Check.due("8: doubt(2, true)", x.doubt(2, true), 0);
        Check.due("8: doubt(2, true) again", x.doubt(2, true), 1);
        Check.due("8: the land without it", x.longest(0, 2), HourRoads.NONE);
        Check.due("8: doubt(2, false)", x.doubt(2, false), 1);
        Check.due("8: doubt(2, false) again", x.doubt(2, false), 0);
        Check.due("8: the land with it", x.longest(0, 2), 12);
        Check.due("8: doubt(3, true)", x.doubt(3, true), HourRoads.BAD);
        Check.due("8: doubt(-1, true)", x.doubt(-1, true), HourRoads.BAD);
        Check.due("8: doubt(32, true)", x.doubt(32, true), HourRoads.BAD);
        Check.due("9: season(2)", x.season(2), 1);
        Check.due("9: winter's land", x.longest(0, 2), 13);
        Check.due("9: season(0)", x.season(0), HourRoads.BAD);
        Check.due("9: season(3)", x.season(3), HourRoads.BAD);
        Check.due("9: season(-1)", x.season(-1), HourRoads.BAD);
        Check.due("9: season(2) again", x.season(2), 2);
        Check.due("9: season(1)", x.season(1), 2);
        Check.due("9: summer's land", x.longest(0, 2), 12);
    }
}
