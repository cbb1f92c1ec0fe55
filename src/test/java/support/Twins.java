import java.util.ArrayList;
import java.util.List;

/**
 * "What is refused changes nothing": two objects are made alike, one of them takes the call that
 * must be refused, then both are asked all that can be asked. Some questions change the object, and
 * an object is good for 512 calls, so each part of the questions has two objects of its own.
 */
final class Twins {
    interface Maker {
        HourRoads make();
    }

    interface Call {
        int on(HourRoads x);
    }

    private interface Look {
        void at(HourRoads x, List<Integer> answers);
    }

    private static final Look[] LOOKS = {Twins::hours, Twins::lands, Twins::otherSeason, Twins::corners,
        Twins::parts, Twins::net, Twins::sheets, Twins::tape};

    private Twins() {
    }

    /** The call answers as due, and nothing has changed. */
    static void refused(String name, Maker maker, int want, Call call) {
        for (int part = 0; part < LOOKS.length; part++) {
            HourRoads touched = maker.make();
            int got = call.on(touched);
            if (part == 0) {
                Check.due(name, got, want);
            }
            Check.isTrue(name + " changes nothing, part " + part,
                seen(part, touched).equals(seen(part, maker.make())));
        }
    }

    /** Whether two ways to make an object lead to the same answers. */
    static void alike(String name, Maker one, Maker other) {
        for (int part = 0; part < LOOKS.length; part++) {
            Check.isTrue(name + ", part " + part, seen(part, one.make()).equals(seen(part, other.make())));
        }
    }

    private static List<Integer> seen(int part, HourRoads x) {
        List<Integer> answers = new ArrayList<>();
        LOOKS[part].at(x, answers);
        return answers;
    }

    private static void hours(HourRoads x, List<Integer> to) {
        to.add(x.fault());
        for (int what = 0; what < 9; what++) {
            to.add(x.count(what));
        }
        for (int k = 0; k < 24; k++) {
            for (int what = 0; what < 8; what++) {
                to.add(x.hour(k, what));
            }
        }
    }

    private static void lands(HourRoads x, List<Integer> to) {
        for (int a = 0; a < 8; a++) {
            for (int b = a + 1; b < 8; b++) {
                to.add(x.longest(a, b));
                to.add(x.shortest(a, b));
                to.add(x.must(a, b));
            }
        }
        for (int k = 0; k < 28; k++) {
            to.add(x.road(k, 0));
            to.add(x.road(k, 1));
            to.add(x.road(k, 2));
        }
        for (int what = 0; what < 4; what++) {
            to.add(x.ask(what));
            to.add(x.tree(what));
            to.add(x.best(what));
            to.add(x.shut(what));
            to.add(x.judge(what));
            to.add(x.wrong(what));
            to.add(x.writers(what));
        }
        for (int what = 0; what < 18; what++) {
            to.add(x.bars(what));
        }
        to.add(x.can());
        to.add(x.heaps());
        to.add(x.roads());
    }

    private static void otherSeason(HourRoads x, List<Integer> to) {
        x.season(3 - x.count(5));
        lands(x, to);
    }

    private static void corners(HourRoads x, List<Integer> to) {
        for (int a = 0; a < 8; a++) {
            for (int b = a + 1; b < 8; b++) {
                for (int c = b + 1; c < 8; c++) {
                    to.add(x.corner(a, b, c, 0));
                    to.add(x.corner(a, b, c, 1));
                }
            }
        }
        for (int t = 0; t < 8; t++) {
            to.add(x.corner(0, 1, 2, 10 + t));
        }
    }

    private static void parts(HourRoads x, List<Integer> to) {
        for (int w = 0; w < 6; w++) {
            for (int v = 0; v < 6; v++) {
                for (int what = 0; what < 5; what++) {
                    to.add(x.part(w, v, what));
                }
            }
        }
    }

    private static void net(HourRoads x, List<Integer> to) {
        for (int a = 0; a < 8; a++) {
            for (int b = 0; b < 8; b++) {
                to.add(x.way(a, b));
            }
        }
        for (int a = 0; a < 8; a++) {
            for (int b = a + 1; b < 8; b++) {
                to.add(x.net(a, b, 0));
            }
        }
    }

    /** By two towns, whose one road is one CELL. */
    private static void sheets(HourRoads x, List<Integer> to) {
        x.towns(2);
        for (int k = 0; k < 4; k++) {
            int lane = 0;
            for (int l = 0; l < 3; l++) {
                int got = x.read(k, l, 0);
                to.add(got);
                lane = got == -13 ? lane : l;
            }
            for (int i = 0; i <= 40; i++) {
                to.add(x.read(k, lane, i));
                to.add(x.net(0, 1, 0));
            }
        }
    }

    private static void tape(HourRoads x, List<Integer> to) {
        to.add(x.count(7));
        to.add(x.hours());
        hours(x, to);
    }
}
