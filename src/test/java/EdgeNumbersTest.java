/**
 * Promises 5 to 58: of each number that a call is given the last that is taken on each side, the first that is refused
 * with STATUS 1 (Terms ==== 5: a number that can't be, no such thing), and that nothing else has changed by it.
 */
public final class EdgeNumbersTest {
    private static final int NUMBER = 1;

    public static void main(String[] args) {
        promises5To8();
        promises10And11();
        promises13To18();
        promises19To23();
        promises24To27();
        promises28To31();
        promises32To38();
        promises39To41();
        promises44To47();
        promises50To53();
        promises54To56();
        Check.end();
    }

    private static void ends(String what, int least, int most, Edge.AskedWith call) {
        Edge.ends(what, Edge::busy, NUMBER, least, most, call);
    }

    private static void promises5To8() {
        ends("P5 tray", 0, 3, (x, n) -> Edge.yes(x.tray(n, 0, 1)));
        ends("P5 sort", 0, 3, (x, n) -> Edge.yes(x.tray(0, n, 1)));
        ends("P5 many", 0, 60, (x, n) -> Edge.yes(x.tray(0, 0, n)));
        Edge.Made four = () -> {
            ExtraCaste x = Edge.busy();
            x.tray(3, 1, 2);
            return x;
        };
        Edge.ends("P6 tray", four, NUMBER, 0, 3, (x, n) -> Edge.yes(x.write(n, 0, 7)));
        Edge.ends("P7 tray", four, NUMBER, 0, 3, (x, n) -> x.read(n, 0));
        Edge.above("P8 from", four, NUMBER, 3, (x, n) -> Edge.yes(x.pour(n, 0, 1, 0, 1)));
        Edge.below("P8 from", four, NUMBER, 0, (x, n) -> Edge.yes(x.pour(n, 0, 2, 0, 1)));
        Edge.above("P8 to", four, NUMBER, 3, (x, n) -> Edge.yes(x.pour(1, 0, n, 0, 1)));
        Edge.below("P8 to", four, NUMBER, 0, (x, n) -> Edge.yes(x.pour(2, 0, n, 0, 1)));
        Edge.below("P8 place", four, NUMBER, 0, (x, n) -> Edge.yes(x.pour(0, n, 2, 0, 1)));
        Edge.below("P8 at", four, NUMBER, 0, (x, n) -> Edge.yes(x.pour(0, 0, 2, n, 1)));
        Edge.below("P8 many", four, NUMBER, 0, (x, n) -> Edge.yes(x.pour(0, 0, 2, 0, n)));
    }

    private static void promises10And11() {
        // The tape of busy() has 20 bytes, "wage 44;corner zz;" and two that no TOKEN begins with.
        Edge.refused("P10 n -1", Edge::busy, x -> x.city(-1), NUMBER);
        Edge.refused("P10 n least", Edge::busy, x -> x.city(Integer.MIN_VALUE), NUMBER);
        Edge.refused("P10 n 21", Edge::busy, x -> x.city(21), NUMBER);
        Edge.refused("P10 n most", Edge::busy, x -> x.city(Integer.MAX_VALUE), NUMBER);
        Edge.taken("P10 n 0", Edge::busy, x -> x.city(0), 0);
        Edge.taken("P10 n 18", Edge::busy, x -> x.city(18), 1);
        ExtraCaste x = Edge.busy();
        Check.refused(x, "P10 n 20, all of the tape", x.city(20), 9);
        Edge.refused("P11 n -1", Edge::busy, y -> y.weeks(-1), NUMBER);
        Edge.refused("P11 n least", Edge::busy, y -> y.weeks(Integer.MIN_VALUE), NUMBER);
        Edge.refused("P11 n 21", Edge::busy, y -> y.weeks(21), NUMBER);
        Edge.refused("P11 n most", Edge::busy, y -> y.weeks(Integer.MAX_VALUE), NUMBER);
        Edge.taken("P11 n 0", Edge::busy, y -> y.weeks(0), 0);
        Edge.Made full = () -> {
            ExtraCaste y = Edge.busy();
            Check.feed(y, Edge.many(" ", 880));
            return y;
        };
        Edge.refused("P10 n 901", full, y -> y.city(901), NUMBER);
        Edge.refused("P11 n 301, of 900", full, y -> y.weeks(301), NUMBER);
        Edge.refused("P11 n 900", full, y -> y.weeks(900), NUMBER);
    }

    private static void promises13To18() {
        ends("P13 what", 0, 13, (x, n) -> x.told(n));
        ends("P14 extra", 0, 2, (x, n) -> x.extra(n, 0));
        ends("P14 what", 0, 4, (x, n) -> x.extra(2, n));
        ends("P15 happening", 0, 3, (x, n) -> x.happening(n, 0));
        ends("P15 what", 0, 4, (x, n) -> x.happening(3, n));
        ends("P16 watcher", 0, 1, (x, n) -> x.watcher(n, 0));
        ends("P16 what", 0, 2, (x, n) -> x.watcher(1, n));
        ends("P17 corner", 0, 3, (x, n) -> x.standing(n));
        Edge.below("P18 corner", Edge::busy, NUMBER, 0, (x, n) -> x.road(n, 1));
        Edge.refused("P18 corner 4", Edge::busy, x -> x.road(4, 1), NUMBER);
        Edge.refused("P18 corner most", Edge::busy, x -> x.road(Integer.MAX_VALUE, 1), NUMBER);
        Edge.below("P18 other", Edge::busy, NUMBER, 0, (x, n) -> x.road(1, n));
        Edge.refused("P18 other 4", Edge::busy, x -> x.road(1, 4), NUMBER);
        Edge.refused("P18 other most", Edge::busy, x -> x.road(1, Integer.MAX_VALUE), NUMBER);
        Edge.refused("P18 one and itself", Edge::busy, x -> x.road(1, 1), NUMBER);
        Edge.refused("P18 the first and itself", Edge::busy, x -> x.road(0, 0), NUMBER);
    }

    private static void promises19To23() {
        ends("P19 many", 1, 99, (x, n) -> x.hour(n));
        ends("P20 extra", 0, 2, (x, n) -> Edge.yes(x.order(n, 2, true)));
        ends("P20 happening", 0, 3, (x, n) -> Edge.yes(x.order(2, n, true)));
        ends("P20 happening", 0, 1, 3, (x, n) -> Edge.yes(x.order(0, n, false)));
        Edge.below("P21 happening", Edge::town, NUMBER, 0, (x, n) -> x.put(n, 1));
        Edge.above("P21 happening", Edge::busy, NUMBER, 3, (x, n) -> x.put(n, 1));
        ends("P21 hours", 1, 99, (x, n) -> x.put(3, n));
        Edge.below("P22 happening", Edge::town, NUMBER, 0, (x, n) -> Edge.yes(x.raise(n, 1)));
        Edge.above("P22 happening", Edge::busy, NUMBER, 3, (x, n) -> Edge.yes(x.raise(n, 1)));
        ends("P22 great", 1, 4, (x, n) -> Edge.yes(x.raise(3, n)));
        ends("P23 corner", 0, 3, (x, n) -> x.plan(n, 0, 1));
        ends("P23 hour", 0, 999, (x, n) -> x.plan(0, n, 1));
        ends("P23 great", 1, 4, (x, n) -> x.plan(0, 0, n));
    }

    /** One HAPPENING is taken, those beyond the least and the most are not. */
    private static void ends(String what, int least, int taken, int most, Edge.AskedWith call) {
        Edge.refused(what + " " + (least - 1), Edge::busy, x -> call.on(x, least - 1), NUMBER);
        Edge.refused(what + " " + (most + 1), Edge::busy, x -> call.on(x, most + 1), NUMBER);
        Edge.taken(what + " " + taken, Edge::busy, x -> call.on(x, taken), 1);
    }

    private static void promises24To27() {
        ends("P24 corner", 0, 3, (x, n) -> x.bear(n));
        Edge.ends("P25 watcher", Edge::busy, NUMBER, 0, 1, (x, n) -> Edge.yes(x.post(n, 3)));
        Edge.below("P25 corner", Edge::busy, NUMBER, 0, (x, n) -> Edge.yes(x.post(0, n)));
        Edge.above("P25 corner", Edge::busy, NUMBER, 3, (x, n) -> Edge.yes(x.post(0, n)));
        ends("P26 watcher", 0, 1, (x, n) -> Edge.yes(x.scare(n, 2)));
        ends("P26 fears", 1, 7, (x, n) -> Edge.yes(x.scare(1, n)));
        ends("P27 what", 5, 7, (x, n) -> Edge.yes(x.rule(n, 9)));
        ends("P27 WAGE", 0, 99, (x, n) -> Edge.yes(x.rule(5, n)));
        ends("P27 DELAY", 1, 24, (x, n) -> Edge.yes(x.rule(6, n)));
        ends("P27 ODDS", 0, 16, (x, n) -> Edge.yes(x.rule(7, n)));
    }

    private static void promises28To31() {
        Edge.below("P28 corner", Edge::busy, NUMBER, 0, (x, n) -> x.far(n, 2));
        Edge.above("P28 corner", Edge::busy, NUMBER, 3, (x, n) -> x.far(n, 3));
        Edge.below("P28 other", Edge::busy, NUMBER, 0, (x, n) -> x.far(2, n));
        Edge.above("P28 other", Edge::busy, NUMBER, 3, (x, n) -> x.far(3, n));
        // From s, the last CORNER, there is no way: where the one or the other is s, the STATUS is 6 below.
        Edge.below("P29 corner", Edge::busy, NUMBER, 0, (x, n) -> x.way(n, 2));
        Edge.below("P29 other", Edge::busy, NUMBER, 0, (x, n) -> x.way(2, n));
        Edge.refused("P29 corner 4", Edge::busy, x -> x.way(4, 2), NUMBER);
        Edge.refused("P29 other 4", Edge::busy, x -> x.way(2, 4), NUMBER);
        Edge.refused("P29 corner most", Edge::busy, x -> x.way(Integer.MAX_VALUE, 2), NUMBER);
        Edge.refused("P29 other most", Edge::busy, x -> x.way(2, Integer.MAX_VALUE), NUMBER);
        Edge.refused("P29 no such one, twice", Edge::busy, x -> x.way(4, 4), NUMBER);
        Edge.ends("P31 corner", Edge::busy, NUMBER, 0, 3, (x, n) -> x.cut(n, 2));
        Edge.ends("P31 other", Edge::busy, NUMBER, 0, 3, (x, n) -> x.cut(1, n));
        Edge.refused("P31 no such one, twice", Edge::busy, x -> x.cut(4, 4), NUMBER);
    }

    private static void promises32To38() {
        Edge.Made all = () -> {
            ExtraCaste x = Edge.busy();
            x.order(1, 3, true);
            x.order(2, 3, true);
            return x;
        };
        Edge.ends("P32 extra", all, NUMBER, 0, 2, (x, n) -> x.goal(n));
        ends("P33 extra", 0, 2, (x, n) -> x.whereIn(n, 9));
        ends("P33 hours", 0, 300, (x, n) -> x.whereIn(2, n));
        ends("P34 corner", 0, 3, (x, n) -> x.standingIn(n, 9));
        ends("P34 hours", 0, 300, (x, n) -> x.standingIn(3, n));
        ends("P35 happening", 0, 3, (x, n) -> x.overIn(n));
        ends("P36 happening", 0, 3, (x, n) -> x.becomes(n));
        ends("P37 extra", 0, 2, (x, n) -> x.wagesIn(n, 9));
        ends("P37 hours", 0, 300, (x, n) -> x.wagesIn(2, n));
        ends("P38 watcher", 0, 1, (x, n) -> x.warnedIn(n, 9));
        ends("P38 hours", 0, 300, (x, n) -> x.warnedIn(1, n));
    }

    private static void promises39To41() {
        ends("P39 extra", 0, 2, (x, n) -> x.attends(n, 0));
        Edge.ends("P39 happenings", Edge::town, NUMBER, 0, 7, (x, n) -> x.attends(0, n));
        ends("P40 extra", 0, 2, (x, n) -> x.best(n));
        ends("P41 extra", 0, 2, (x, n) -> x.bestWages(n));
    }

    private static void promises44To47() {
        Edge.Made laid = () -> {
            ExtraCaste x = Edge.town();
            for (int tray = 0; tray < 4; tray++) {
                x.tray(tray, tray, 60);
                for (int i = 0; i < 60; i++) {
                    x.write(tray, i, 1);
                }
            }
            return x;
        };
        Edge.Made empty = () -> {
            ExtraCaste x = Edge.town();
            for (int tray = 0; tray < 4; tray++) {
                x.tray(tray, tray, 4);
            }
            return x;
        };
        Edge.ends("P44 tray", empty, NUMBER, 0, 3, (x, n) -> x.explained(n));
        Edge.ends("P45 tray", empty, NUMBER, 0, 3, (x, n) -> x.sure(n));
        Edge.ends("P46 tray", empty, NUMBER, 0, 3, (x, n) -> x.laws(n, 0));
        Edge.ends("P47 tray", empty, NUMBER, 0, 3, (x, n) -> x.lawFirst(n, 0));
        threesAtEnds("P46 n", laid, (x, n) -> x.laws(2, n));
        threesAtEnds("P47 n", laid, (x, n) -> x.lawFirst(3, n));
        Edge.ends("P53 tray", empty, NUMBER, 0, 3, (x, n) -> x.copyStanding(n));
    }

    /** As 60 numbers fill all calls that an object has, what is refused is looked at here without the other one. */
    private static void threesAtEnds(String what, Edge.Made laid, Edge.AskedWith call) {
        int[] off = {-1, 21, Integer.MIN_VALUE, Integer.MAX_VALUE};
        for (int n : off) {
            ExtraCaste x = laid.make();
            Check.refused(x, what + " " + n, call.on(x, n), NUMBER);
        }
        int[] taken = {0, 20};
        for (int n : taken) {
            ExtraCaste x = laid.make();
            call.on(x, n);
            Check.due(what + " " + n + ": status", x.status(), 0);
        }
    }

    private static void promises50To53() {
        ends("P50 corner", 0, 3, (x, n) -> x.game(n, 1));
        ends("P50 turns", 0, 3, (x, n) -> x.game(1, n));
        ends("P51 corner", 0, 3, (x, n) -> x.moveOf(n, 1));
        ends("P51 turns", 1, 3, (x, n) -> x.moveOf(1, n));
        ends("P52 k", 0, 7, (x, n) -> Edge.yes(x.falls(n)));
    }

    private static void promises54To56() {
        ends("P54 seed", 0, 9999, (x, n) -> x.live(n));
        ends("P55 what", 0, 4, (x, n) -> x.lived(n));
        ends("P56 seed", 0, 9999, (x, n) -> Edge.yes(x.mean(n, 1)));
        ends("P56 many", 1, 20, (x, n) -> Edge.yes(x.mean(7, n)));
        ends("P56 the last of two", 0, 9998, (x, n) -> Edge.yes(x.mean(n, 2)));
        ends("P56 the last of twenty", 0, 9980, (x, n) -> Edge.yes(x.mean(n, 20)));
        Edge.refused("P56 most of most", Edge::busy,
            x -> Edge.yes(x.mean(Integer.MAX_VALUE, Integer.MAX_VALUE)), NUMBER);
    }
}
