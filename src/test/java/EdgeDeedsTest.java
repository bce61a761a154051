/** Boundary cases of promises 20 to 27: order(), put(), raise(), plan(), bear(), post(), scare(), rule(). */
public final class EdgeDeedsTest {
    private static final String P = "corner p;corner q;extra e at p;happening h at p hour 0 great 1;"
        + "happening i at p hour 5 great 1;happening j at p hour 0 great 2;watcher w at p fears 7;";

    public static void main(String[] args) {
        promise20ItIsSo();
        promise20WhatIsOver();
        promise21NotToCome();
        promise21AboveTheLastHour();
        promise21FromNoHourOn();
        promise22NotToCome();
        promise23ANinth();
        promise23WhatIsPlanned();
        promise24AnEighth();
        promise24WhoIsBorn();
        promise25HeIsThere();
        promise26WhatHeFears();
        promise27FromNowOn();
        Check.end();
    }

    private static ExtraCaste later() {
        ExtraCaste x = Check.cityOf(P);
        Check.fine(x, "h HAPPENS, j FAILS", x.hour(1), 1);
        Check.due("h", x.happening(0, 3), 1);
        Check.due("j", x.happening(2, 3), 2);
        return x;
    }

    /** Promise 20: 7: it is so. */
    private static void promise20ItIsSo() {
        Edge.refused("no more, as it is not", EdgeDeedsTest::later, x -> Edge.yes(x.order(0, 1, false)), 7);
        Edge.Made ordered = () -> {
            ExtraCaste x = later();
            Check.fine(x, "on it", x.order(0, 1, true));
            Check.due("roster", x.extra(0, 2), 2);
            return x;
        };
        Edge.refused("on it, as it is", ordered, x -> Edge.yes(x.order(0, 1, true)), 7);
        Edge.refused("another one, as it is not", ordered, x -> Edge.yes(x.order(0, 0, false)), 7);
        ExtraCaste x = ordered.make();
        Check.fine(x, "no more", x.order(0, 1, false));
        Check.due("roster", x.extra(0, 2), 0);
        Check.refused(x, "no more, again", x.order(0, 1, false), 7);
        x = Check.cityOf("corner p;" + Edge.many("extra e# at p;", 7) + Edge.many("happening h# at p hour 1 great 1;", 8));
        Check.fine(x, "the last on the last's", x.order(6, 7, true));
        Check.fine(x, "the first on the last's", x.order(6, 0, true));
        Check.due("roster", x.extra(6, 2), 129);
        Check.due("the others'", x.extra(5, 2) + x.extra(0, 2), 0);
        Check.refused(x, "1 ahead of 7", x.order(6, 8, false), 1);
        Check.refused(x, "1 ahead of 7", x.order(7, 0, false), 1);
    }

    /** Promise 20: what HAPPENED, what FAILED may come to a ROSTER, or go. */
    private static void promise20WhatIsOver() {
        Edge.taken("what HAPPENED", EdgeDeedsTest::later, x -> Edge.yes(x.order(0, 0, true)), 1);
        Edge.taken("what FAILED", EdgeDeedsTest::later, x -> Edge.yes(x.order(0, 2, true)), 1);
    }

    /** Promise 21: 7: it is not TO COME. */
    private static void promise21NotToCome() {
        Edge.refused("it HAPPENED", EdgeDeedsTest::later, x -> x.put(0, 1), 7);
        Edge.refused("it FAILED", EdgeDeedsTest::later, x -> x.put(2, 1), 7);
        Edge.taken("it is TO COME", EdgeDeedsTest::later, x -> x.put(1, 1), 6);
        Edge.refused("1 ahead of 7", EdgeDeedsTest::later, x -> x.put(0, 0), 1);
        Edge.refused("1 ahead of 7", EdgeDeedsTest::later, x -> x.put(0, 100), 1);
    }

    private static ExtraCaste put(int hour) {
        ExtraCaste x = later();
        for (int left = hour - 5; left > 0; left -= Math.min(left, 99)) {
            x.put(1, Math.min(left, 99));
        }
        Check.due("HOUR", x.happening(1, 1), hour);
        return x;
    }

    /** Promise 21: 7: above 9,999. */
    private static void promise21AboveTheLastHour() {
        Edge.taken("99 to 9,999", () -> put(9900), x -> x.put(1, 99), 9999);
        Edge.refused("99 to 10,000", () -> put(9901), x -> x.put(1, 99), 7);
        Edge.taken("98 to 9,999", () -> put(9901), x -> x.put(1, 98), 9999);
        Edge.taken("1 to 9,999", () -> put(9998), x -> x.put(1, 1), 9999);
        Edge.refused("1 to 10,000", () -> put(9999), x -> x.put(1, 1), 7);
        Edge.refused("1 ahead of 7", () -> put(9999), x -> x.put(1, 0), 1);
    }

    /** Promise 21: its HOUR then counts from its own, not from now. */
    private static void promise21FromNoHourOn() {
        ExtraCaste x = Check.cityOf(P);
        x.hour(50);
        x.plan(0, 0, 1);
        Check.fine(x, "from 0", x.put(3, 1), 1);
        Check.fine(x, "to 50", x.put(3, 49), 50);
        Check.fine(x, "it comes about now", x.hour(1), 1);
    }

    /** Promise 22: 7: it is not TO COME; as GREAT as it was is fine. */
    private static void promise22NotToCome() {
        Edge.refused("it HAPPENED", EdgeDeedsTest::later, x -> Edge.yes(x.raise(0, 1)), 7);
        Edge.refused("it FAILED", EdgeDeedsTest::later, x -> Edge.yes(x.raise(2, 1)), 7);
        Edge.taken("it is TO COME", EdgeDeedsTest::later, x -> Edge.yes(x.raise(1, 4)), 1);
        Edge.taken("as GREAT as it was", EdgeDeedsTest::later, x -> Edge.yes(x.raise(1, 1)), 1);
        Edge.refused("1 ahead of 7", EdgeDeedsTest::later, x -> Edge.yes(x.raise(0, 5)), 1);
        Edge.refused("1 ahead of 7", EdgeDeedsTest::later, x -> Edge.yes(x.raise(2, 0)), 1);
        ExtraCaste x = later();
        x.raise(1, 2);
        Check.fine(x, "one more than stand behind", x.hour(9), 0);
        Check.due("it FAILED", x.happening(1, 3), 2);
    }

    private static ExtraCaste withHappenings(int many) {
        return Check.cityOf("corner p;extra e at p;" + Edge.many("happening h# at p hour 0 great 1;", many));
    }

    /** Promise 23: 4: a ninth, those that are over counted, too. */
    private static void promise23ANinth() {
        Edge.taken("a first", () -> withHappenings(0), x -> x.plan(0, 0, 1), 0);
        Edge.taken("an eighth", () -> withHappenings(7), x -> x.plan(0, 999, 4), 7);
        Edge.refused("a ninth", () -> withHappenings(8), x -> x.plan(0, 0, 1), 4);
        Edge.Made over = () -> {
            ExtraCaste x = withHappenings(8);
            x.hour(1);
            Check.due("all over", x.told(9), 0);
            return x;
        };
        Edge.refused("a ninth, as all are over", over, x -> x.plan(0, 999, 1), 4);
        Edge.refused("1 ahead of 4", over, x -> x.plan(1, 999, 1), 1);
        Edge.refused("1 ahead of 4", over, x -> x.plan(0, 1000, 1), 1);
        Edge.refused("1 ahead of 4", over, x -> x.plan(0, 999, 5), 1);
        Edge.refused("no CORNERS", ExtraCaste::new, x -> x.plan(0, 0, 1), 1);
    }

    /** Promise 23: TO COME, on no ROSTER, at an HOUR 0 to 999, GREAT 1 to 4. */
    private static void promise23WhatIsPlanned() {
        ExtraCaste x = Check.cityOf("corner p;corner q;extra e at p;" + Edge.many("happening h# at p hour 0 great 1;", 6)
            + "roster e ha hb hc hd he hf;");
        Check.fine(x, "plan", x.plan(1, 0, 1), 6);
        Check.fine(x, "plan", x.plan(0, 999, 4), 7);
        int[][] due = {{1, 0, 1, 0, 0}, {0, 999, 4, 0, 1}};
        for (int h = 0; h < 2; h++) {
            for (int what = 0; what < 5; what++) {
                Check.fine(x, "planned " + h + " " + what, x.happening(6 + h, what), due[h][what]);
            }
        }
        Check.due("on no ROSTER", x.extra(0, 2), 63);
        Check.due("eight", x.told(3), 8);
        Check.due("TO COME", x.told(9), 255);
        x.hour(1);
        Check.due("that of HOUR 0 FAILED", x.happening(6, 3), 2);
        // It has no NAME: none is taken by it.
        Check.refused(x, "no NAME", Check.weeks(x, "put hg 1;"), 9);
        Check.due("no such one", x.fault(0), 3);
    }

    private static ExtraCaste withExtras(int many) {
        return Check.cityOf("corner p;corner q;" + Edge.many("extra e# at p;", many));
    }

    /** Promise 24: 4: an eighth. */
    private static void promise24AnEighth() {
        Edge.taken("a first", () -> withExtras(0), x -> x.bear(1), 0);
        Edge.taken("a seventh", () -> withExtras(6), x -> x.bear(1), 6);
        Edge.refused("an eighth", () -> withExtras(7), x -> x.bear(1), 4);
        Edge.refused("1 ahead of 4", () -> withExtras(7), x -> x.bear(2), 1);
        Edge.refused("1 ahead of 4", () -> withExtras(7), x -> x.bear(-1), 1);
        Edge.refused("no CORNERS", ExtraCaste::new, x -> x.bear(0), 1);
        ExtraCaste x = withExtras(0);
        for (int e = 0; e < 7; e++) {
            Check.fine(x, "bear", x.bear(e % 2), e);
        }
        Check.refused(x, "an eighth", x.bear(0), 4);
        Check.due("seven", x.told(2), 7);
        Check.due("at p", x.standing(0), 85);
        Check.due("at q", x.standing(1), 42);
    }

    /** Promise 24: who stands at a CORNER, with no ROSTER, WAGES; he has both from then on as all have. */
    private static void promise24WhoIsBorn() {
        ExtraCaste x = later();
        Check.fine(x, "bear", x.bear(0), 1);
        for (int what = 0; what < 5; what++) {
            Check.fine(x, "born " + what, x.extra(1, what), 0);
        }
        Check.fine(x, "hour", x.hour(5), 1);
        Check.due("WAGES", x.extra(1, 3), 1);
        Check.due("behind one", x.extra(1, 4), 1);
        Check.refused(x, "no NAME", Check.weeks(x, "order f h;"), 9);
        Check.due("no such one", x.fault(0), 3);
    }

    /** Promise 25: 7: he is there. */
    private static void promise25HeIsThere() {
        Edge.refused("he is there", EdgeDeedsTest::later, x -> Edge.yes(x.post(0, 0)), 7);
        Edge.taken("he is not", EdgeDeedsTest::later, x -> Edge.yes(x.post(0, 1)), 1);
        Edge.refused("1 ahead of 7", EdgeDeedsTest::later, x -> Edge.yes(x.post(1, 0)), 1);
        ExtraCaste x = later();
        x.post(0, 1);
        Check.due("there", x.watcher(0, 0), 1);
        Check.refused(x, "again", x.post(0, 1), 7);
        Check.fine(x, "and back", x.post(0, 0));
        Edge.refused("no WATCHERS", () -> withExtras(1), y -> Edge.yes(y.post(0, 1)), 1);
    }

    /** Promise 26: 1 to 7; what he FEARS already is fine. */
    private static void promise26WhatHeFears() {
        ExtraCaste x = later();
        for (int fears : new int[] {7, 7, 1, 1, 2}) {
            Check.fine(x, "scare " + fears, x.scare(0, fears));
            Check.due("FEARS", x.watcher(0, 1), fears);
        }
        x.hour(1);
        Check.due("two are not there", x.watcher(0, 2), 0);
        x.scare(0, 1);
        x.hour(1);
        Check.due("one is", x.watcher(0, 2), 1);
        Edge.refused("no WATCHERS", () -> withExtras(1), y -> Edge.yes(y.scare(0, 1)), 1);
    }

    /** Promise 27: WAGE 0 to 99, DELAY 1 to 24, ODDS 0 to 16, each by its own what alone. */
    private static void promise27FromNowOn() {
        int[][] ends = {{5, 0, 99}, {6, 1, 24}, {7, 0, 16}};
        for (int[] e : ends) {
            ExtraCaste x = later();
            Check.refused(x, "one too few", x.rule(e[0], e[1] - 1), 1);
            Check.refused(x, "one too many", x.rule(e[0], e[2] + 1), 1);
            for (int much : new int[] {e[2], e[1], e[1]}) {
                Check.fine(x, "rule " + e[0] + " " + much, x.rule(e[0], much));
                for (int what = 5; what <= 7; what++) {
                    Check.due("told " + what, x.told(what), what == e[0] ? much : what == 6 ? 2 : 1);
                }
            }
        }
        ExtraCaste x = new ExtraCaste();
        Check.fine(x, "without a CITY", x.rule(5, 99));
        Check.refused(x, "what is told alone", x.rule(8, 1), 1);
        Check.refused(x, "what is told alone", x.rule(4, 1), 1);
        x = later();
        x.rule(5, 99);
        Check.due("WAGES had stay", x.told(13), 1);
        x.hour(9);
        Check.due("by the new WAGE", x.told(13), 100);
    }
}
