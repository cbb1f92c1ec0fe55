import java.lang.management.ManagementFactory;

/**
 * LANGUAGE.md's rules 7 and 12 on random runs: no call throws; what is refused changes nothing;
 * after it has been made, an object makes nothing more.
 */
public final class AnyCallTest {
    private AnyCallTest() {
    }

    public static void main(String[] args) {
        for (int run = 0; run < 250; run++) {
            refusedChangesNothing(run);
        }
        for (int run = 0; run < 40; run++) {
            wildNumbers(run);
        }
        makesNothing();
        Check.end("AnyCallTest");
    }

    /** All that can be asked without changing anything, as one number. */
    private static long view(HourRoads x) {
        long sum = x.fault();
        for (int what = 0; what < 9; what++) {
            sum = 31 * sum + x.count(what);
        }
        for (int k = 0; k < 24; k++) {
            for (int what = 0; what < 8; what++) {
                sum = 31 * sum + x.hour(k, what);
            }
        }
        sum = 31 * sum + x.can();
        for (int a = 0; a < 8; a++) {
            for (int b = 0; b < 8; b++) {
                sum = 31 * sum + x.way(a, b);
                sum = 31 * sum + x.longest(a, b);
            }
        }
        for (int k = 0; k < 28; k++) {
            sum = 31 * sum + x.road(k, 0) + 8L * x.road(k, 1);
        }
        return sum;
    }

    private static void refusedChangesNothing(int run) {
        Calls calls = new Calls(run + 7000);
        HourRoads x = new HourRoads();
        Model m = new Model();
        for (int i = 0; i < 60; i++) {
            if (i % 20 == 0) {
                String text = calls.textOfLand(4, 8, 4, calls.below(5));
                x.towns(4);
                m.towns(4);
                x.end(0);
                m.end(0);
                Check.feed(x, text);
                Calls.feed(m, text);
                x.hours();
                m.hours();
            }
            int kind = calls.below(Calls.KINDS);
            if (kind == 18 || kind == 24 || kind == 4) {
                continue;
            }
            long before = view(x);
            int answer = calls.call(kind, x, m)[0];
            boolean changes = kind == 1 || kind == 2 || kind == 3 || kind == 7 || kind == 8 || kind == 25
                || kind >= 28;
            if (answer < 0 || !changes) {
                Check.due("run " + run + ": all answers after " + calls.latest, view(x), before);
            }
        }
    }

    private static void wildNumbers(int run) {
        Calls calls = new Calls(run + 9000);
        HourRoads x = new HourRoads();
        Model m = new Model();
        for (int i = 0; i < 500; i++) {
            calls.call(calls.below(Calls.KINDS), x, m);
            int a = calls.number(4) * calls.number(1000);
            int b = calls.number(9) * calls.number(1000);
            int c = calls.number(9) * calls.number(1000);
            x.corner(a, b, c, calls.number(99));
            x.net(a, b, c);
            x.lay(a, b, c);
            x.sheet(a, b, c);
            x.read(a, b, c);
            x.part(a, b, c);
            x.hour(a, b);
            x.road(a, b);
            x.bars(c);
            x.end(a);
            x.hours();
            m.end(0);
            m.hours();
        }
        Check.isTrue("no call has thrown", true);
    }

    private static void makesNothing() {
        HourRoads x = Check.told(8, "a b4;b c4;c d4;d e4;e f4;f g4;g h4;h a4;a e8;b f9;c g9by2;d h3by3;a b9winter;");
        everyCall(x);
        com.sun.management.ThreadMXBean beans =
            (com.sun.management.ThreadMXBean) ManagementFactory.getThreadMXBean();
        long thread = Thread.currentThread().getId();
        beans.getThreadAllocatedBytes(thread);
        long base = beans.getThreadAllocatedBytes(thread);
        long cost = beans.getThreadAllocatedBytes(thread) - base;
        long before = beans.getThreadAllocatedBytes(thread);
        everyCall(x);
        long made = beans.getThreadAllocatedBytes(thread) - before - cost;
        Check.due("12: bytes that all calls make", made, 0);
    }

    private static int everyCall(HourRoads x) {
        int sum = 0;
        for (int i = -1; i < 18; i++) {
            sum += x.bars(i) + x.ask(i) + x.wrong(i) + x.writers(i) + x.tree(i) + x.best(i) + x.shut(i)
                + x.judge(i) + x.count(i) + x.corner(0, 1, 2, i) + x.part(0, 2, i) + x.hour(3, i) + x.road(2, i);
        }
        sum += x.shortest(0, 4) + x.longest(0, 4) + x.must(0, 4) + x.can() + x.heaps() + x.roads() + x.draw();
        sum += x.net(0, 1, 3) + x.way(0, 1) + x.sheet(1, 1, 40) + x.lay(1, 3, 9) + x.read(1, 1, 0) + x.season(2);
        sum += x.season(1) + x.doubt(11, true) + x.wrong(0) + x.shut(0) + x.doubt(11, false);
        sum += x.feed(0x6120622033203b20L) + x.end(0) + x.fault();
        return sum;
    }
}
