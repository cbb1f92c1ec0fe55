import java.util.ArrayList;
import java.util.List;

/** Promises 1 to 33: random runs of calls, each answer beside the one of the literal model. */
public final class ModelTest {
    private static final int RUNS = 1200;

    private ModelTest() {
    }

    public static void main(String[] args) {
        int runs = args.length > 0 ? Integer.parseInt(args[0]) : RUNS;
        long seed = args.length > 1 ? Long.parseLong(args[1]) : 1;
        for (int run = 0; run < runs; run++) {
            oneRun(seed * 1_000_003 + run);
        }
        Check.end("ModelTest");
    }

    private static void oneRun(long seed) {
        Calls calls = new Calls(seed);
        HourRoads x = new HourRoads();
        Model m = new Model();
        List<String> log = new ArrayList<>();
        int dear = 12;
        for (int i = 0; i < 400; i++) {
            int kind = calls.below(Calls.KINDS + 4);
            if (kind >= Calls.KINDS || i == 0 || kind == 4) {
                i += tellText(calls, x, m, log);
                continue;
            }
            boolean isDear = kind == 18 || kind == 24;
            if (isDear && dear-- <= 0 || kind == 2 && calls.below(4) != 0 || kind == 1 && calls.below(6) != 0) {
                continue;
            }
            int[] both = calls.call(kind, x, m);
            log.add(calls.latest + " = " + both[1]);
            if (!isAsDue(seed, log, calls.latest, both)) {
                return;
            }
        }
    }

    /** Answers how many calls it took. */
    private static int tellText(Calls calls, HourRoads x, Model m, List<String> log) {
        if (calls.below(4) == 0) {
            int n = 2 + calls.below(7);
            x.towns(n);
            m.towns(n);
            log.add("towns(" + n + ")");
        }
        int n = m.count(0);
        String text = calls.textOfLand(n, calls.below(15) == 0 ? 25 : calls.below(14), calls.below(7),
            calls.below(4) == 0 ? calls.below(10) : 0);
        int kind = calls.below(8);
        text = kind == 0 ? calls.textOfPieces(1 + calls.below(12)) : kind == 1 ? calls.spoilt(text) : text;
        x.end(0);
        m.end(0);
        Check.feed(x, text);
        Calls.feed(m, text);
        int[] both = {x.hours(), m.hours()};
        log.add("'" + text + "' hours() = " + both[1]);
        isAsDue(0, log, "hours() of '" + text + "'", both);
        int[] faults = {x.fault(), m.fault()};
        isAsDue(0, log, "fault() of '" + text + "'", faults);
        return text.length() / 8 + 6;
    }

    private static boolean isAsDue(long seed, List<String> log, String call, int[] both) {
        Check.due("run " + seed + ": " + call, both[0], both[1]);
        if (both[0] != both[1]) {
            System.out.println(String.join("\n", log.subList(Math.max(0, log.size() - 60), log.size())));
        }
        return both[0] == both[1];
    }
}
