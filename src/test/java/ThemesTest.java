/** Random lands of one kind each, where the dear questions have answers that are seldom met else. */
public final class ThemesTest {
    private static final int ROUNDS = 250;
    private static int met = 0;

    private ThemesTest() {
    }

    public static void main(String[] args) {
        int rounds = args.length > 0 ? Integer.parseInt(args[0]) : ROUNDS;
        Calls calls = new Calls(args.length > 1 ? Long.parseLong(args[1]) : 20);
        for (int i = 0; i < rounds; i++) {
            quarrels(calls);
        }
        atLeast("rows of three or more", rounds / 20);
        for (int i = 0; i < rounds; i++) {
            stars(calls);
        }
        atLeast("corners that gain", rounds / 20);
        for (int i = 0; i < rounds; i++) {
            winters(calls);
        }
        atLeast("roads shut", rounds / 20);
        for (int i = 0; i < rounds; i++) {
            nets(calls);
        }
        atLeast("roads that can go", rounds / 2);
        for (int i = 0; i < rounds; i++) {
            parts(calls);
        }
        atLeast("pairs of hours of two writers", rounds);
        Check.end("ThemesTest");
    }

    /** A theme that never meets what it is for would prove nothing. */
    private static void atLeast(String what, int least) {
        Check.isTrue(what + ": " + met + " met, " + least + " wanted", met >= least);
        met = 0;
    }

    private static HourRoads x;
    private static Model m;
    private static String text;

    private static void begin(int n, String told) {
        text = n + " towns, " + told + " ";
        x = new HourRoads();
        m = new Model();
        x.towns(n);
        m.towns(n);
        Check.feed(x, told);
        Calls.feed(m, told);
        due("hours()", x.hours(), m.hours());
    }

    private static void due(String call, int got, int want) {
        Check.due(text + call, got, want);
    }

    private static void quarrels(Calls calls) {
        int n = 3 + calls.below(6);
        begin(n, calls.textOfQuarrels(n, n + calls.below(13 - n + 2)));
        for (int turn = 0; turn < 3; turn++) {
            due("can()", x.can(), m.can());
            for (int what = 0; what < 36; what++) {
                due("bars(" + what + ")", x.bars(what), m.bars(what));
            }
            met += m.bars(1) >= 3 ? 1 : 0;
            for (int what = 0; what < 3; what++) {
                due("wrong(" + what + ")", x.wrong(what), m.wrong(what));
                due("writers(" + what + ")", x.writers(what), m.writers(what));
            }
            int bar = m.bars(0);
            if (bar < 0) {
                break;
            }
            due("doubt(" + bar + ", true)", x.doubt(bar, true), m.doubt(bar, true));
        }
    }

    private static void stars(Calls calls) {
        int n = 3 + calls.below(6);
        begin(n, calls.textOfStar(n));
        due("tree(0)", x.tree(0), m.tree(0));
        due("tree(1)", x.tree(1), m.tree(1));
        due("best(0)", x.best(0), m.best(0));
        due("best(1)", x.best(1), m.best(1));
        met += m.best(0) > 0 ? 1 : 0;
        for (int a = 0; a < n; a++) {
            for (int b = a + 1; b < n; b++) {
                due("must(" + a + ", " + b + ")", x.must(a, b), m.must(a, b));
                for (int c = b + 1; c < n; c++) {
                    int what = calls.below(2) == 0 ? calls.below(2) : 10 + calls.below(n);
                    due("corner(" + a + ", " + b + ", " + c + ", " + what + ")", x.corner(a, b, c, what),
                        m.corner(a, b, c, what));
                }
            }
        }
    }

    private static void winters(Calls calls) {
        int n = 3 + calls.below(6);
        begin(n, calls.textOfWinter(n, n + calls.below(8)));
        due("shut(0)", x.shut(0), m.shut(0));
        due("shut(1)", x.shut(1), m.shut(1));
        met += m.shut(0) > 0 ? 1 : 0;
        int k = calls.below(Math.max(1, m.count(1)));
        due("doubt(" + k + ", true)", x.doubt(k, true), m.doubt(k, true));
        due("season(2)", x.season(2), m.season(2));
        due("shut(0)", x.shut(0), m.shut(0));
        due("shut(1)", x.shut(1), m.shut(1));
    }

    private static void nets(Calls calls) {
        int n = 2 + calls.below(7);
        begin(n, calls.textOfLand(n, 8, calls.below(6), 0));
        for (int a = 0; a < n; a++) {
            for (int b = a + 1; b < n; b++) {
                int v = calls.below(4) == 0 ? 0 : 1 + calls.below(12);
                due("net(" + a + ", " + b + ", " + v + ")", x.net(b, a, v), m.net(b, a, v));
            }
        }
        for (int what = 0; what < 4; what++) {
            due("judge(" + what + ")", x.judge(what), m.judge(what));
        }
        met += m.judge(3) > 0 ? 1 : 0;
        due("draw()", x.draw(), m.draw());
        for (int what = 0; what < 4; what++) {
            due("drawn, judge(" + what + ")", x.judge(what), m.judge(what));
        }
        due("count(6)", x.count(6), m.count(6));
    }

    private static void parts(Calls calls) {
        begin(3, calls.textOfLand(3, 20, 8, 9));
        for (int k = 0; k < 3; k++) {
            int doubted = calls.below(24);
            due("doubt(" + doubted + ", true)", x.doubt(doubted, true), m.doubt(doubted, true));
        }
        for (int w = 0; w < 6; w++) {
            for (int v = 0; v < 6; v++) {
                for (int what = 0; what < 5; what++) {
                    due("part(" + w + ", " + v + ", " + what + ")", x.part(w, v, what), m.part(w, v, what));
                }
                met += Math.max(0, m.part(w, v, 4));
            }
        }
    }
}
