/** Objects in many states, made anew for each test that needs them. */
final class Towns {
    private Towns() {
    }

    /** Something of all: seasons, writers, a doubt, roads, sheets, a tape that would be taken, a FAULT. */
    static HourRoads rich() {
        HourRoads x = Check.told(5,
            "a b 20 to 30 by 1;b c 3 to 5;c d 9 by 2 summer;d c 8 by 2 winter;b a 25 by 2;a d 40 to 90;");
        x.doubt(4, true);
        Check.tell(x, "a b 7 to 6;");
        things(x);
        return x;
    }

    /** It can not be, in either season; not all are joined. */
    static HourRoads quarrel() {
        HourRoads x = Check.told(5, "a b 3 by 1;b a 9 by 2;b c 4 to 6;a c 99 by 3 winter;");
        x.season(2);
        things(x);
        return x;
    }

    /** As many HOURS, TOWNS, bytes and CELLS as there may be; all is doubted but the first few. */
    static HourRoads full() {
        StringBuilder text = new StringBuilder();
        for (int i = 0; i < 24; i++) {
            text.append((char) ('a' + i % 7)).append(' ').append((char) ('b' + i % 7)).append(" 100 ; ");
        }
        HourRoads x = Check.told(8, text.toString());
        for (int k = 12; k < 24; k++) {
            x.doubt(k, true);
        }
        for (int k = 0; k < 4; k++) {
            x.sheet(k, k % 3, 40);
            x.lay(k, 39, 7);
        }
        Check.feed(x, text.toString());
        return x;
    }

    private static void things(HourRoads x) {
        x.net(0, 1, 9999);
        x.net(1, 4, 17);
        for (int lane = 0; lane < 3; lane++) {
            x.sheet(lane, lane, 12);
            for (int i = 0; i < 12; i++) {
                x.lay(lane, i, 5 * i + lane);
            }
        }
        x.lay(2, 11, 10000);
        Check.feed(x, "c d 77 by 3;a b 9 summer;");
    }

    /** The states in which a number that is not as told is refused. */
    static void refusedEverywhere(String name, int want, Twins.Call call) {
        Twins.refused(name + ", rich", Towns::rich, want, call);
        Twins.refused(name + ", quarrel", Towns::quarrel, want, call);
        Twins.refused(name + ", full", Towns::full, want, call);
        Twins.refused(name + ", new", HourRoads::new, want, call);
    }
}
