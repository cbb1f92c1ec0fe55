/** What every test needs: answers compared, a text fed to a tape, an end that tells. */
final class Check {
    private static int made = 0;
    private static int wrong = 0;

    private Check() {
    }

    static void due(String call, long got, long want) {
        made++;
        if (got != want) {
            wrong++;
            if (wrong <= 40) {
                System.out.println(call + " answered " + got + ", due is " + want);
            }
        }
    }

    static void isTrue(String what, boolean is) {
        due(what, is ? 1 : 0, 1);
    }

    /** Puts a text on the tape, behind what is there. */
    static void feed(HourRoads x, String text) {
        int had = x.count(7);
        for (int at = 0; at < text.length(); at += 8) {
            long eight = 0;
            for (int i = 0; i < 8; i++) {
                int place = at + i;
                eight = eight << 8 | (place < text.length() ? text.charAt(place) : ' ') & 255;
            }
            int now = x.feed(eight);
            if (now < 0) {
                throw new IllegalStateException("the text is too long: " + text);
            }
        }
        x.end(had + text.length());
    }

    static int tell(HourRoads x, String text) {
        feed(x, text);
        return x.hours();
    }

    /** A new object of n towns that has been told a text without a fault. */
    static HourRoads told(int n, String text) {
        HourRoads x = new HourRoads();
        x.towns(n);
        int answer = tell(x, text);
        if (answer < 0) {
            throw new IllegalStateException("a fault at " + (-10 - answer) + " of " + text);
        }
        return x;
    }

    static void end(String test) {
        System.out.println(test + ": " + made + " answers, " + wrong + " wrong");
        if (wrong != 0) {
            System.exit(1);
        }
    }
}
