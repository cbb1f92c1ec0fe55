/** The edges that the document names for towns, the tape, its text and hours: promises 1 to 9. */
public final class EdgesTownsTest {
    private static final int BAD = HourRoads.BAD;
    private static final int FULL = HourRoads.FULL;
    private static final int NONE = HourRoads.NONE;
    private static final int MIN = Integer.MIN_VALUE;
    private static final int MAX = Integer.MAX_VALUE;

    private EdgesTownsTest() {
    }

    public static void main(String[] args) {
        newObject();
        towns();
        townsTakeAllAway();
        feed();
        bytesOfEight();
        end();
        everyByte();
        everyTokenEverywhere();
        ends();
        bounds();
        lettersOfTowns();
        the25th();
        longTexts();
        hoursRefused();
        hoursTaken();
        fault();
        hour();
        doubt();
        season();
        the512th();
        Check.end("EdgesTownsTest");
    }

    // ---- 1

    private static void newObject() {
        HourRoads x = new HourRoads();
        Check.due("1: 4 TOWNS at first", x.count(0), 4);
        Check.due("1: the last of them", x.longest(0, 3), NONE);
        Check.due("1: there is no fifth", x.longest(0, 4), BAD);
        Check.due("1: no HOURS", x.hour(0, 0), BAD);
        Check.due("1: none to doubt", x.doubt(0, true), BAD);
        Check.due("1: summer at first", x.season(1), 1);
        Check.due("1: THE TAPE is empty", x.end(1), BAD);
        Check.due("1: it can be", x.can(), 1);
        Check.due("1: no FAULT yet", x.fault(), 0);
        for (int a = 0; a < 4; a++) {
            for (int b = a + 1; b < 4; b++) {
                Check.due("1: no road", x.net(a, b, 0), 0);
            }
        }
        for (int k = 0; k < 4; k++) {
            for (int lane = 0; lane < 3; lane++) {
                Check.due("1: SHEET " + k + " is nothing", x.read(k, lane, 0), -11);
            }
        }
        Twins.alike("1: as towns(4) leaves it", HourRoads::new, () -> {
            HourRoads y = new HourRoads();
            y.towns(4);
            return y;
        });
    }

    // ---- 2

    private static void towns() {
        for (int v : new int[] {MIN, -1, 0, 1, 9, 10, MAX}) {
            Towns.refusedEverywhere("2: towns(" + v + ")", BAD, x -> x.towns(v));
        }
        HourRoads x = new HourRoads();
        int was = 4;
        for (int v : new int[] {2, 8, 3, 7, 4, 6, 5, 5, 8, 2}) {
            Check.due("2: towns(" + v + "), what it was", x.towns(v), was);
            Check.due("2: n becomes " + v, x.count(0), v);
            Check.due("2: the last of " + v, x.longest(0, v - 1), NONE);
            Check.due("2: one beyond " + v, x.longest(0, v), BAD);
            Check.due("2: heaps of " + v, x.heaps(), v);
            was = v;
        }
    }

    private static void townsTakeAllAway() {
        HourRoads x = Towns.rich();
        int cells = x.count(8);
        int bytes = x.count(7);
        x.season(2);
        Check.due("2: the same n", x.towns(5), 5);
        Check.due("2: HOURS are gone", x.count(1), 0);
        Check.due("2: so none is doubted", x.count(3), 0);
        Check.due("2: none is told", x.hour(0, 2), BAD);
        Check.due("2: nothing is joined", x.heaps(), 5);
        Check.due("2: roads are gone", x.count(6), 0);
        Check.due("2: this one too", x.net(1, 4, 0), 0);
        Check.due("2: it is summer", x.count(5), 1);
        Check.due("2: THE TAPE is not told of", x.count(7), bytes);
        Check.due("2: nor are SHEETS", x.count(8), cells);
        Check.due("2: nor the FAULT", x.fault(), 3);
        Check.due("2: THE TAPE as it was", x.hours(), 2);
        Check.due("2: with its bytes", x.hour(0, 2), 77);
        Check.due("2: SHEETS with their CELLS", x.read(1, 1, 1), 10);
        Check.due("2: CELL 1 of lane 1", x.net(0, 1, 0), 6);
        HourRoads y = Towns.quarrel();
        y.towns(4);
        Check.due("2: it can be again", y.can(), 1);
        Check.due("2: nothing to doubt", y.wrong(0), 0);
    }

    // ---- 3, 4

    private static void feed() {
        HourRoads x = new HourRoads();
        for (int i = 1; i <= 30; i++) {
            Check.due("3: how many it has", x.feed(-1), 8 * i);
        }
        Check.due("3: one more is too many", x.feed(-1), FULL);
        Check.due("3: and again", x.feed(0), FULL);
        Check.due("3: 240 stay", x.count(7), 240);
        for (int kept = 233; kept <= 240; kept++) {
            int n = kept;
            Twins.refused("3: " + n + " and eight are more than 240", () -> blanks(n), FULL, t -> t.feed(0x613bL));
        }
        for (int kept : new int[] {0, 1, 7, 231, 232}) {
            Check.due("3: eight behind " + kept, blanks(kept).feed(0), kept + 8);
        }
        Twins.refused("3: a full tape of HOURS", Towns::full, FULL, t -> t.feed(0x6120622033203b20L));
    }

    /** A tape of so many blanks. */
    private static HourRoads blanks(int n) {
        HourRoads x = new HourRoads();
        Check.feed(x, " ".repeat(n));
        return x;
    }

    /** The highest byte first, and each whole. */
    private static void bytesOfEight() {
        for (int i = 0; i < 8; i++) {
            for (int sign = 0; sign < 256; sign++) {
                HourRoads x = new HourRoads();
                x.towns(8);
                long v = 0x2020202020202020L & ~(255L << 56 - 8 * i) | (long) sign << 56 - 8 * i;
                x.feed(v);
                int place = sign == ' ' ? 0 : sign >= 'a' && sign <= 'h' ? -18 : -10 - i;
                Check.due("3: byte " + i + " of eight, " + sign, x.hours(), place);
            }
        }
        HourRoads x = new HourRoads();
        x.feed(0x6120622031323b61L);
        x.feed(0x206320333435363bL);
        Check.due("3: behind THE TAPE", x.hours(), 2);
        Check.due("3: in this order", x.hour(0, 2) * 10000 + x.hour(1, 2), 123456);
    }

    private static void end() {
        for (int n : new int[] {MIN, -1, 241, 248, MAX}) {
            Towns.refusedEverywhere("4: end(" + n + ")", BAD, x -> x.end(n));
        }
        Twins.refused("4: more than it has", Towns::rich, BAD, x -> x.end(x.count(7) + 1));
        Twins.refused("4: one of none", HourRoads::new, BAD, x -> x.end(1));
        HourRoads x = blanks(240);
        Check.due("4: all of it", x.end(240), 240);
        Check.due("4: all but one", x.end(239), 240);
        Check.due("4: 240 is too many then", x.end(240), BAD);
        Check.due("4: the same again", x.end(239), 239);
        Check.due("4: one", x.end(1), 239);
        Check.due("4: none", x.end(0), 1);
        Check.due("4: none again", x.end(0), 0);
        HourRoads y = new HourRoads();
        Check.feed(y, "a b 1234");
        y.end(6);
        Check.due("4: what is cut is not read", y.hours(), -16);
        Check.feed(y, "a b 5;c d 6;");
        y.end(6);
        Check.due("4: nor a whole line", y.hours(), 1);
        Check.feed(y, "a b 99999");
        y.end(5);
        Check.feed(y, ";");
        Check.due("4: what comes, comes behind", y.hours(), 1);
        Check.due("4: the first bytes are kept", y.hour(0, 2), 9);
    }

    // ---- 5, 6: the text

    /** A text is taken: so many HOURS and no FAULT; or it has a FAULT at a place. */
    private static void text(String text, int fault, int answer) {
        text(4, text, fault, answer);
    }

    private static void text(int n, String text, int fault, int answer) {
        HourRoads x = new HourRoads();
        x.towns(n);
        Check.due("5: hours() of '" + text + "'", Check.tell(x, text), answer);
        Check.due("6: fault() of '" + text + "'", x.fault(), fault);
        Check.due("5: THE TAPE is empty behind '" + text + "'", x.count(7), 0);
        Check.due("5: HOURS of '" + text + "'", x.count(1), Math.max(0, answer));
    }

    private static boolean isLetter(int sign) {
        return sign >= 'a' && sign <= 'z';
    }

    private static boolean isFigure(int sign) {
        return sign >= '0' && sign <= '9';
    }

    /** All 256 bytes where a text starts, between two TOWNS and behind a NUMBER. */
    private static void everyByte() {
        for (int sign = 0; sign < 256; sign++) {
            String s = String.valueOf((char) sign);
            boolean isToken = isLetter(sign) || isFigure(sign) || sign == ';';
            if (sign == ' ') {
                text(s, 0, 0);
                text("a" + s + "b 5;", 0, 1);
                text("a b 5" + s, 2, -16);
                text("a b 5" + s + ";", 0, 1);
                continue;
            }
            if (isLetter(sign)) {
                text(s, sign <= 'd' ? 2 : 4, sign <= 'd' ? -11 : -10);
            } else {
                text(s, isToken ? 2 : 1, -10);
            }
            text("a" + s + "b 5;", isToken ? 2 : 1, isLetter(sign) ? -10 : -11);
            if (sign == ';') {
                text("a b 5" + s, 0, 1);
            } else {
                text("a b 5" + s, isToken ? 2 : 1, isFigure(sign) ? -16 : -15);
            }
        }
    }

    private static final String[] BEFORE = {"", "a ", "a b ", "a b 5 ", "a b 5 to ", "a b 5 to 6 ", "a b 5 by ",
        "a b 5 by 1 ", "a b 5 to 6 by 1 ", "a b 5 summer ", "a b 5 to 6 by 1 winter ", "a b 5;"};
    private static final String[] TOKENS = {"a", "c", "e", "z", "to", "by", "summer", "winter", "xy", "summe", "5",
        "0", "6", "9999", "0005", "10000", "00005", ";", "tos", "bys", "summers", "winterwinter", "t", "aa"};
    /** For each of BEFORE the FAULT of each of TOKENS; a dot: it is taken. */
    private static final String[] FAULTS = {
        "..4422222222222112222242",
        "4.4422222222222112222242",
        "2222222222.3...112222222",
        "2222....222222211.222222",
        "2222222222.3...112222222",
        "22222...222222211.222222",
        "2222222222..33.112222222",
        "222222..222222211.222222",
        "222222..222222211.222222",
        "22222222222222211.222222",
        "22222222222222211.222222",
        "..4422222222222112222242"};

    /**
     * Behind each TOKEN stands a byte that is none: its FAULT is met if the TOKEN is taken, and not
     * ahead of that.
     */
    private static void everyTokenEverywhere() {
        for (int i = 0; i < BEFORE.length; i++) {
            for (int j = 0; j < TOKENS.length; j++) {
                char due = FAULTS[i].charAt(j);
                int place = BEFORE[i].length() + (due == '.' ? TOKENS[j].length() + 1 : 0);
                text(BEFORE[i] + TOKENS[j] + " ?", due == '.' ? 1 : due - '0', -10 - place);
                text("  " + BEFORE[i] + "   " + TOKENS[j] + " ?", due == '.' ? 1 : due - '0', -15 - place);
            }
        }
    }

    /** The end where a TOKEN is due: the length, blanks counted. */
    private static void ends() {
        for (int i = 0; i < BEFORE.length; i++) {
            boolean isWhole = i == 0 || i == BEFORE.length - 1;
            for (int more = 0; more < 4; more++) {
                String all = BEFORE[i] + " ".repeat(more);
                text(all, isWhole ? 0 : 2, isWhole ? Math.min(i, 1) : -10 - all.length());
            }
        }
        text("a", 2, -11);
        text("a b", 2, -13);
        text("a b 5", 2, -15);
        text("a b 5 to", 2, -18);
        text("a b 5 winter", 2, -22);
    }

    private static void bounds() {
        String[] low = {"1", "01", "0001", "9999", "9998"};
        for (String n : low) {
            text("a b " + n + ";", 0, 1);
        }
        text("a b 0;", 3, -14);
        text("a b 00;", 3, -14);
        text("a b 0000;", 3, -14);
        text("a b 10000;", 1, -14);
        text("a b 00000;", 1, -14);
        text("a b 00001;", 1, -14);
        text("a b 9999 to 9999;", 0, 1);
        text("a b 9999 to 9998;", 3, -19 - 3);
        text("a b 9998 to 9999;", 0, 1);
        text("a b 1 to 1;", 0, 1);
        text("a b 1 to 0;", 3, -19);
        text("a b 2 to 1;", 3, -19);
        text("a b 1 to 9999;", 0, 1);
        text("a b 1 to 10000;", 1, -19);
        for (int w = 0; w <= 5; w++) {
            HourRoads x = Check.told(4, "a b 7 by " + w + ";a b 7;");
            Check.due("5: WRITER " + w, x.hour(0, 4), w);
            Check.due("5: 0, if it is not told", x.hour(1, 4), 0);
        }
        text("a b 7 by 6;", 3, -19);
        text("a b 7 by 0005;", 0, 1);
        text("a b 7 by 0006;", 3, -19);
        text("a b 7 by 00005;", 1, -19);
        text("a b 7 by 9999;", 3, -19);
        HourRoads x = Check.told(4, "a b 1;c d 9999;a c 0012 to 0345;");
        Check.due("5: told alone it is LEAST", x.hour(0, 2), 1);
        Check.due("5: and MOST", x.hour(0, 3), 1);
        Check.due("5: 9999 is LEAST", x.hour(1, 2), 9999);
        Check.due("5: and MOST", x.hour(1, 3), 9999);
        Check.due("5: figures 0 ahead", x.hour(2, 2) * 10000 + x.hour(2, 3), 120345);
    }

    /** The last letter that is a TOWN's and the first that is none, for each n, at both places. */
    private static void lettersOfTowns() {
        for (int n = 2; n <= 8; n++) {
            for (char c = 'a'; c <= 'z'; c++) {
                boolean isTown = c - 'a' < n;
                if (c != 'a') {
                    text(n, "a " + c + " 7;", isTown ? 0 : 4, isTown ? 1 : -12);
                    text(n, c + " a 7;", isTown ? 0 : 4, isTown ? 1 : -10);
                }
                text(n, c + " " + c + " 7;", 4, isTown ? -12 : -10);
            }
        }
    }

    private static void the25th() {
        String all = "a b1;".repeat(24);
        text(all, 0, 24);
        text(all + " ".repeat(120), 0, 24);
        text("a b1;".repeat(23), 0, 23);
        String[] ahead = {"a b1;", "a", "b", "z", "a a1;", "e f 0;", "i"};
        for (String line : ahead) {
            text(all + line, 5, -130);
            text(all + "  " + line, 5, -132);
        }
        String[] none = {"ab", "to", "5", ";", "0", "winter"};
        for (String token : none) {
            text(all + token, 2, -130);
        }
        text(all + "?", 1, -130);
        text(all + "12345", 1, -130);
        text("a b1;".repeat(23) + "a b1", 2, -129);
        text("a b1;".repeat(23) + "a a1;a b1;", 4, -127);
    }

    private static void longTexts() {
        text(" ".repeat(240), 0, 0);
        text("a b 100 ; ".repeat(24), 0, 24);
        text("a b 100 ; ".repeat(23) + "a b  100 ;", 0, 24);
        text(" ".repeat(234) + "a b 5;", 0, 1);
        text(" ".repeat(235) + "a b 5", 2, -250);
        text(" ".repeat(239) + "?", 1, -249);
        text(" ".repeat(239) + ";", 2, -249);
        text("a" + " ".repeat(239), 2, -250);
        text("a".repeat(240), 2, -10);
        text("7".repeat(240), 1, -10);
        text("a b " + "0".repeat(236), 1, -14);
        text("a b 5" + " ".repeat(234) + ";", 0, 1);
    }

    private static void hoursRefused() {
        HourRoads x = Towns.rich();
        x.end(0);
        Check.due("5: a FAULT at the end", Check.tell(x, "c d 5;a b 6;b c 7"), -27);
        Check.due("5: THE TAPE is empty then", x.count(7), 0);
        Check.due("6: this one's FAULT", x.fault(), 2);
        String[] texts = {"?", ";", "a b 0;", "a a 7;", "a b1;".repeat(24) + "a", "c d 9;b c 8;?", "c d 9"};
        for (String text : texts) {
            // the FAULT itself is told anew: both have the same one, the last of a text alone
            Twins.alike("5: those that were told stay behind '" + text + "'", () -> toldWith("?"),
                () -> toldWith(text, "?"));
        }
    }

    private static HourRoads toldWith(String... texts) {
        HourRoads x = Towns.rich();
        x.end(0);
        for (String text : texts) {
            Check.tell(x, text);
        }
        return x;
    }

    private static void hoursTaken() {
        HourRoads x = Check.told(4, "a b 5 by 3 winter;".repeat(3) + "c d 9 summer;");
        x.doubt(3, true);
        x.doubt(0, true);
        x.season(2);
        Check.due("5: no text tells no HOURS", x.hours(), 0);
        Check.due("5: in place of what there was", x.count(1), 0);
        Check.due("5: none is DOUBTED", x.count(3), 0);
        Check.due("5: THE SEASON stays", x.count(5), 2);
        Check.due("5: as many as may be", Check.tell(x, "a b1;".repeat(24)), 24);
        x.doubt(23, true);
        x.doubt(0, true);
        Check.due("5: one in place of 24", Check.tell(x, "c d 2;"), 1);
        Check.due("5: none is DOUBTED", x.hour(0, 6), 0);
        Check.due("5: no second", x.hour(1, 0), BAD);
        Check.due("5: 24 again", Check.tell(x, "a b1;".repeat(24)), 24);
        Check.due("5: none is DOUBTED", x.count(3), 0);
        Check.due("5: the last COUNTS", x.hour(23, 7), 1);
        HourRoads both = Check.told(3, "c a 7;");
        Check.due("5: they go both ways", both.longest(0, 2) * 100 + both.longest(2, 0), 707);
    }

    private static void fault() {
        HourRoads x = new HourRoads();
        String[] texts = {"?", ";", "a b 0;", "a a 1;", "a b1;".repeat(24) + "a"};
        for (int i = 0; i < texts.length; i++) {
            Check.tell(x, texts[i]);
            Check.due("6: FAULT of the latest", x.fault(), i + 1);
            Check.due("6: it stays", x.fault(), i + 1);
            Check.tell(x, "a b 3;");
            Check.due("6: 0 behind a text that is taken", x.fault(), 0);
            Check.tell(x, texts[i]);
            x.hours();
            Check.due("6: 0 behind an empty one", x.fault(), 0);
        }
        Check.tell(x, "a a 1;");
        Check.tell(x, "?");
        Check.due("6: the latest, not the greatest", x.fault(), 1);
        x.feed(0);
        x.end(0);
        x.season(2);
        x.towns(9);
        x.doubt(-1, true);
        Check.due("6: no other call changes it", x.fault(), 1);
    }

    // ---- 7, 8, 9

    private static void hour() {
        for (int what : new int[] {MIN, -1, 8, 9, MAX}) {
            Towns.refusedEverywhere("7: hour(0, " + what + ")", BAD, x -> x.hour(0, what));
        }
        for (int k : new int[] {MIN, -1, 24, 25, 32, MAX}) {
            Towns.refusedEverywhere("7: hour(" + k + ", 0)", BAD, x -> x.hour(k, 0));
        }
        Check.due("7: the last of six", Towns.rich().hour(5, 2), 40);
        Check.due("7: no seventh", Towns.rich().hour(6, 2), BAD);
        HourRoads x = Check.told(8, "a b1;".repeat(23) + "h g 9998 to 9999 by 5 winter;");
        int[] due = {7, 6, 9998, 9999, 5, 2, 0, 0};
        for (int what = 0; what < 8; what++) {
            Check.due("7: hour(23, " + what + ")", x.hour(23, what), due[what]);
        }
        x.season(2);
        Check.due("7: in winter it COUNTS", x.hour(23, 7), 1);
        x.doubt(23, true);
        Check.due("7: whether it is DOUBTED", x.hour(23, 6), 1);
        Check.due("7: then it does not COUNT", x.hour(23, 7), 0);
        Check.due("7: the one ahead does", x.hour(22, 7) - x.hour(22, 6), 1);
        HourRoads seasons = Check.told(3, "a b 3;a b 3 summer;a b 3 winter;");
        int[] summer = {1, 1, 0};
        int[] winter = {1, 0, 1};
        for (int k = 0; k < 3; k++) {
            Check.due("7: SEASON of " + k, seasons.hour(k, 5), k);
            Check.due("7: in summer " + k, seasons.hour(k, 7), summer[k]);
        }
        seasons.season(2);
        for (int k = 0; k < 3; k++) {
            Check.due("7: in winter " + k, seasons.hour(k, 7), winter[k]);
        }
    }

    private static void doubt() {
        for (int k : new int[] {MIN, -1, 24, 31, 32, 33, 64, MAX}) {
            Towns.refusedEverywhere("8: doubt(" + k + ", true)", BAD, x -> x.doubt(k, true));
            Towns.refusedEverywhere("8: doubt(" + k + ", false)", BAD, x -> x.doubt(k, false));
        }
        Twins.refused("8: one beyond", Towns::rich, BAD, x -> x.doubt(6, true));
        Twins.refused("8: the first of none", HourRoads::new, BAD, x -> x.doubt(0, true));
        HourRoads x = Check.told(2, "a b1;".repeat(24));
        for (int k = 0; k < 24; k++) {
            Check.due("8: it was not", x.doubt(k, true), 0);
            Check.due("8: so many are", x.count(3), k + 1);
            Check.due("8: so many COUNT", x.count(2), 23 - k);
        }
        Check.due("8: without any HOUR", x.longest(0, 1), NONE);
        Check.due("8: it was", x.doubt(23, true), 1);
        Check.due("8: no more of them", x.count(3), 24);
        Check.due("8: not any more", x.doubt(23, false), 1);
        Check.due("8: it was not", x.doubt(23, false), 0);
        Check.due("8: the others are", x.count(3), 23);
        Check.due("8: by one HOUR", x.longest(0, 1), 1);
        HourRoads y = Check.told(2, "a b 3 winter;");
        Check.due("8: one that does not COUNT", y.doubt(0, true), 0);
        y.season(2);
        Check.due("8: is DOUBTED all the same", y.hour(0, 7), 0);
    }

    private static void season() {
        for (int v : new int[] {MIN, -1, 0, 3, 4, MAX}) {
            Towns.refusedEverywhere("9: season(" + v + ")", BAD, x -> x.season(v));
        }
        HourRoads x = Towns.rich();
        Check.due("9: summer again", x.season(1), 1);
        Check.due("9: winter", x.season(2), 1);
        Check.due("9: what it was", x.season(2), 2);
        Check.due("9: doubts stay", x.count(3), 1);
        Check.due("9: roads stay", x.count(6), 2);
        Check.due("9: back", x.season(1), 2);
        Twins.alike("9: and all is as before", Towns::rich, () -> {
            HourRoads y = Towns.rich();
            y.season(2);
            y.season(1);
            return y;
        });
    }

    /** An object is good for 512 calls: here the last ones answer as the first ones did. */
    private static void the512th() {
        HourRoads x = new HourRoads();
        for (int i = 0; i < 128; i++) {
            Check.due("3: call " + (4 * i + 1), x.feed(0x6120622037203b20L), 8);
            Check.due("5: call " + (4 * i + 2), x.hours(), 1);
            Check.due("8: call " + (4 * i + 3), x.doubt(0, true), 0);
            Check.due("11: call " + (4 * i + 4), x.longest(0, 1), NONE);
        }
    }
}
