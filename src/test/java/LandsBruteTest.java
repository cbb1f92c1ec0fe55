import java.util.Random;

/**
 * Promises 10 to 13 by what they mean: all lands of few towns and short ways are made, and those
 * that fit are looked at. CAN BE, LONG and SHORT must be exact; MUST must hold in each of them.
 */
public final class LandsBruteTest {
    private static final int TOWNS = 4;
    private static final int[][] PAIRS = {{0, 1}, {0, 2}, {0, 3}, {1, 2}, {1, 3}, {2, 3}};
    private static final int MOST = 3;
    /** No way is longer than over all towns. */
    private static final int LONGEST = MOST * (TOWNS - 1);

    private LandsBruteTest() {
    }

    public static void main(String[] args) {
        Random random = new Random(5);
        for (int i = 0; i < 60; i++) {
            oneLand(random);
        }
        Check.end("LandsBruteTest");
    }

    private static void oneLand(Random random) {
        int[] least = new int[6];
        int[] most = new int[6];
        StringBuilder text = new StringBuilder();
        for (int p = 0; p < 6; p++) {
            if (random.nextInt(3) != 0 || p < 3 && random.nextInt(3) != 0) {
                least[p] = 1 + random.nextInt(MOST);
                most[p] = least[p] + random.nextInt(MOST - least[p] + 1);
                text.append((char) ('a' + PAIRS[p][0])).append(' ').append((char) ('a' + PAIRS[p][1]))
                    .append(least[p]).append("to").append(most[p]).append(';');
            }
        }
        HourRoads x = Check.told(TOWNS, text.toString());
        if (x.heaps() > 1) {
            return;
        }
        int[] lows = new int[6];
        int[] highs = new int[6];
        boolean[] hasOwn = new boolean[6];
        boolean isAny = look(least, most, lows, highs, hasOwn);
        Check.due("10: can() of " + text, x.can(), isAny ? 1 : 0);
        if (!isAny) {
            return;
        }
        for (int p = 0; p < 6; p++) {
            int a = PAIRS[p][0];
            int b = PAIRS[p][1];
            Check.due("11: longest of " + a + ", " + b + " in " + text, x.longest(a, b), highs[p]);
            Check.due("12: shortest of " + a + ", " + b + " in " + text, x.shortest(a, b), lows[p]);
            if (x.must(a, b) == 1) {
                Check.isTrue("13: a road of its own of " + a + ", " + b + " in " + text, hasOwn[p]);
            }
        }
    }

    private static boolean look(int[] least, int[] most, int[] lows, int[] highs, boolean[] hasOwn) {
        boolean isAny = false;
        int[] d = new int[6];
        java.util.Arrays.fill(lows, Integer.MAX_VALUE);
        java.util.Arrays.fill(hasOwn, true);
        long all = 1;
        for (int p = 0; p < 6; p++) {
            all *= LONGEST;
        }
        for (long code = 0; code < all; code++) {
            long rest = code;
            boolean fits = true;
            for (int p = 0; p < 6 && fits; p++) {
                d[p] = 1 + (int) (rest % LONGEST);
                rest /= LONGEST;
                fits = least[p] == 0 || d[p] >= least[p] && d[p] <= most[p];
            }
            if (!fits || !isLand(d)) {
                continue;
            }
            isAny = true;
            for (int p = 0; p < 6; p++) {
                lows[p] = Math.min(lows[p], d[p]);
                highs[p] = Math.max(highs[p], d[p]);
                hasOwn[p] &= isRoad(d, p);
            }
        }
        return isAny;
    }

    private static int of(int[] d, int a, int b) {
        for (int p = 0; p < 6; p++) {
            if (PAIRS[p][0] == Math.min(a, b) && PAIRS[p][1] == Math.max(a, b)) {
                return d[p];
            }
        }
        return 0;
    }

    private static int overThird(int[] d, int p) {
        int found = Integer.MAX_VALUE;
        for (int t = 0; t < TOWNS; t++) {
            if (t != PAIRS[p][0] && t != PAIRS[p][1]) {
                found = Math.min(found, of(d, PAIRS[p][0], t) + of(d, t, PAIRS[p][1]));
            }
        }
        return found;
    }

    private static boolean isLand(int[] d) {
        for (int p = 0; p < 6; p++) {
            if (d[p] > overThird(d, p)) {
                return false;
            }
        }
        return true;
    }

    private static boolean isRoad(int[] d, int p) {
        return d[p] < overThird(d, p);
    }
}
