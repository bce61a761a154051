/** Boundary cases of GOAL and of how an HOUR goes by (Terms ==== 2), and of promises 19, 32: hour(), goal(). */
public final class EdgeHoursTest {
    private static final String PQ = "corner p;corner q;";

    public static void main(String[] args) {
        promise19ToNineThousandNineHundredNinetyNine();
        promise19HowManyHappened();
        termsTheLastHourDoesNotGoBy();
        termsTakesOneToNine();
        termsWhoStaysWhereHeIs();
        termsTurnsAtARoadsEndAlone();
        termsAsManyAsItIsGreat();
        termsEachWhoStandsHasWages();
        termsAsManyAsHeFears();
        termsWarnsOfTheLeastHourTheFirst();
        termsWarnsWhenThereIsNone();
        termsDelaysToTheLastHour();
        termsWatcherByWatcher();
        termsExtrasThenHappeningsThenWatchers();
        promise32LeastHourTheFirst();
        Check.end();
    }

    private static ExtraCaste at(ExtraCaste x, int hour) {
        for (int left = hour - x.told(8); left > 0; left -= Math.min(left, 99)) {
            x.hour(Math.min(left, 99));
        }
        Check.due("HOUR", x.told(8), hour);
        return x;
    }

    /** Terms ==== 2: to 9,999; promise 19: 4: above 9,999, as a whole. */
    private static void promise19ToNineThousandNineHundredNinetyNine() {
        Edge.Made last = () -> at(Edge.town(), 9999);
        Edge.refused("1 from 9,999", last, x -> x.hour(1), 4);
        Edge.refused("99 from 9,999", last, x -> x.hour(99), 4);
        Edge.refused("P19 a number that can't be ahead of 4", last, x -> x.hour(0), 1);
        Edge.refused("P19 a number that can't be ahead of 4", last, x -> x.hour(100), 1);
        Edge.taken("1 from 9,998", () -> at(Edge.town(), 9998), x -> x.hour(1), 0);
        Edge.refused("2 from 9,998", () -> at(Edge.town(), 9998), x -> x.hour(2), 4);
        Edge.taken("99 from 9,900", () -> at(Edge.town(), 9900), x -> x.hour(99), 0);
        Edge.refused("99 from 9,901", () -> at(Edge.town(), 9901), x -> x.hour(99), 4);
        ExtraCaste x = at(Edge.town(), 9900);
        x.hour(99);
        Check.due("HOUR", x.told(8), 9999);
        x = at(new ExtraCaste(), 9999);
        Check.refused(x, "of an empty CITY, too", x.hour(1), 4);
    }

    /** Promise 19: how many HAPPENED in them; none of those that FAILED, or HAPPENED ahead. */
    private static void promise19HowManyHappened() {
        String city = "corner p;extra e at p;" + Edge.many("happening h# at p hour 3 great 1;", 8);
        ExtraCaste x = Check.cityOf(city);
        Check.fine(x, "HOURS 0 to 2", x.hour(3), 0);
        Check.fine(x, "all eight in HOUR 3", x.hour(1), 8);
        Check.fine(x, "none again", x.hour(99), 0);
        x = Check.cityOf(city);
        Check.fine(x, "all eight within 4", x.hour(4), 8);
        x = Check.cityOf(city.replace("great 1", "great 2"));
        Check.fine(x, "all FAILED", x.hour(4), 0);
        Check.due("FAILED", x.told(11), 255);
        x = new ExtraCaste();
        Check.fine(x, "of an empty CITY", x.hour(99), 0);
        Check.due("HOUR", x.told(8), 99);
    }

    /** Terms ==== 2: what is to be in HOUR 9,999 stays TO COME; what is in 9,998 comes. */
    private static void termsTheLastHourDoesNotGoBy() {
        ExtraCaste x = Check.cityOf("corner p;extra e at p;happening h at p hour 999 great 1;happening i at p hour 999 great 1;");
        for (int h = 0; h < 2; h++) {
            for (int i = 0; i < 90; i++) {
                x.put(h, 99);
            }
        }
        Check.fine(x, "to 9,998", x.put(0, 89), 9998);
        Check.fine(x, "to 9,999", x.put(1, 90), 9999);
        at(x, 9998);
        Check.due("both TO COME", x.told(9), 3);
        Check.fine(x, "HOUR 9,998", x.hour(1), 1);
        Check.due("TO COME", x.told(9), 2);
        Check.refused(x, "no more", x.hour(1), 4);
        // Terms ==== 3: ahead HOUR 9,999 does not matter.
        Check.fine(x, "ahead it comes about", x.overIn(1), 1);
        Check.fine(x, "ahead it HAPPENS", x.becomes(1), 1);
        Check.due("TO COME all the same", x.told(9), 2);
    }

    /** Terms ==== 2: he has what the ROAD TAKES, less 1, to go; who has 0 to go stands at the ROAD's end. */
    private static void termsTakesOneToNine() {
        for (int takes = 1; takes <= 9; takes++) {
            ExtraCaste x = Check.cityOf(PQ + "road p q takes " + takes + ";extra e at p;happening h at q hour 99 great 1;roster e h;");
            Check.due("at p", x.extra(0, 0), 0);
            Check.due("none to go", x.extra(0, 1), 0);
            for (int hour = 1; hour <= takes + 1; hour++) {
                x.hour(1);
                boolean there = hour >= takes;
                Check.due(takes + ": where in " + hour, x.extra(0, 0), there ? 1 : 11);
                Check.due(takes + ": to go in " + hour, x.extra(0, 1), there ? 0 : takes - hour);
                Check.due(takes + ": on a ROAD in " + hour, x.told(12), there ? 0 : 1);
                Check.due(takes + ": stands in " + hour, x.standing(1), there ? 1 : 0);
                Check.due("not at p", x.standing(0), 0);
            }
        }
    }

    /** Terms ==== 2: who has no GOAL, is at its CORNER, or has no way, stays. */
    private static void termsWhoStaysWhereHeIs() {
        ExtraCaste x = Check.cityOf("corner p;corner q;corner r;road p q takes 1;extra e at p;extra f at p;extra g at p;"
            + "happening h at p hour 50 great 1;happening i at r hour 50 great 1;happening j at q hour 60 great 1;"
            + "roster f h;roster g i j;");
        x.hour(50);
        Check.due("all three at p", x.standing(0), 7);
        x.hour(1);
        Check.due("all three at p in HOUR 50", x.standing(0), 7);
        Check.due("i FAILED", x.happening(1, 3), 2);
        x.hour(1);
        Check.due("g goes to j", x.standing(1), 4);
    }

    /** Terms ==== 2: who is on a ROAD goes on, whatever becomes of his GOAL; he has another one at its end. */
    private static void termsTurnsAtARoadsEndAlone() {
        ExtraCaste x = Check.cityOf(PQ + "road p q takes 3;extra e at p;happening h at q hour 0 great 1;"
            + "happening i at p hour 9 great 1;roster e h i;");
        x.hour(1);
        Check.due("h FAILED", x.happening(0, 3), 2);
        Check.due("on the ROAD", x.extra(0, 0), 11);
        x.hour(2);
        Check.due("at its end", x.extra(0, 0), 1);
        x.hour(1);
        Check.due("back again", x.extra(0, 0), 10);
        x.order(0, 1, false);
        x.hour(2);
        Check.due("on, without a GOAL", x.extra(0, 0), 0);
    }

    /** Terms ==== 2: if as many EXTRAS stand at its CORNER as it is GREAT, or more, it HAPPENS. */
    private static void termsAsManyAsItIsGreat() {
        for (int great = 1; great <= 4; great++) {
            for (int many = 0; many <= 7; many++) {
                ExtraCaste x = Check.cityOf(PQ + Edge.many("extra e# at p;", many) + "happening h at p hour 0 great "
                    + great + ";");
                Check.fine(x, many + " behind " + great, x.hour(1), many >= great ? 1 : 0);
                Check.due("what became of it", x.happening(0, 3), many >= great ? 1 : 2);
                Check.due("WAGES", x.told(13), many >= great ? many * great : 0);
            }
        }
        // One on a ROAD does not stand behind; one who comes in that HOUR does.
        String city = PQ + "road p q takes 2;extra e at p;happening h at q hour 0 great 1;roster e h;";
        ExtraCaste x = Check.cityOf(city);
        Check.fine(x, "on the ROAD", x.hour(1), 0);
        x = Check.cityOf(city.replace("hour 0", "hour 1"));
        Check.fine(x, "comes in that HOUR", x.hour(2), 1);
        x = Check.cityOf(PQ + "extra e at q;happening h at p hour 0 great 1;");
        Check.fine(x, "at another CORNER", x.hour(1), 0);
    }

    /** Terms ==== 2: each of these has WAGE times GREAT, whatever is on his ROSTER. */
    private static void termsEachWhoStandsHasWages() {
        ExtraCaste x = Check.cityOf("wage 99;" + PQ + Edge.many("extra e# at p;", 6) + "extra f at q;"
            + Edge.many("happening h# at p hour 0 great 4;", 8));
        Check.fine(x, "all eight", x.hour(1), 8);
        for (int e = 0; e < 7; e++) {
            Check.due("WAGES of " + e, x.extra(e, 3), e < 6 ? 8 * 4 * 99 : 0);
            Check.due("behind how many", x.extra(e, 4), e < 6 ? 8 : 0);
        }
        Check.due("WAGES that all had", x.told(13), 6 * 8 * 4 * 99);
        x = Check.cityOf("wage 0;corner p;extra e at p;happening h at p hour 0 great 1;");
        Check.fine(x, "without WAGE", x.hour(1), 1);
        Check.due("no WAGES", x.extra(0, 3), 0);
        Check.due("behind one", x.extra(0, 4), 1);
    }

    /** Terms ==== 2: if as many EXTRAS stand at his CORNER as he FEARS, or more, he WARNS. */
    private static void termsAsManyAsHeFears() {
        for (int fears = 1; fears <= 7; fears++) {
            for (int many = 0; many <= 7; many++) {
                ExtraCaste x = Check.cityOf(PQ + Edge.many("extra e# at p;", many) + "watcher w at p fears " + fears
                    + ";watcher v at q fears 1;happening h at p hour 9 great 1;");
                x.hour(1);
                Check.due(many + " seen of " + fears, x.watcher(0, 2), many >= fears ? 1 : 0);
                Check.due("put off", x.happening(0, 1), many >= fears ? 11 : 9);
                Check.due("at another CORNER", x.watcher(1, 2), 0);
            }
        }
        ExtraCaste x = Check.cityOf(PQ + "road p q takes 2;extra e at p;happening h at q hour 9 great 1;roster e h;"
            + "watcher w at q fears 1;watcher v at p fears 1;");
        x.hour(1);
        Check.due("of one on a ROAD nobody warns", x.watcher(0, 2) + x.watcher(1, 2), 0);
        x.hour(1);
        Check.due("as he comes", x.watcher(0, 2), 1);
    }

    private static void due(ExtraCaste x, int... hours) {
        for (int h = 0; h < hours.length; h++) {
            Check.due("HOUR of " + h, x.happening(h, 1), hours[h]);
        }
    }

    /** Terms ==== 2: of those TO COME at his CORNER that with the least HOUR, of several the first. */
    private static void termsWarnsOfTheLeastHourTheFirst() {
        ExtraCaste x = Check.cityOf("delay 1;" + PQ + "extra e at p;happening a at p hour 8 great 1;happening b at q hour 6 great 1;"
            + "happening c at p hour 7 great 1;happening d at p hour 7 great 1;watcher w at p fears 1;");
        x.hour(1);
        due(x, 8, 6, 8, 7);
        x.hour(1);
        due(x, 8, 6, 8, 8);
        x.hour(1);
        due(x, 9, 6, 8, 8);
        x.hour(1);
        due(x, 9, 6, 9, 8);
        // What is over is not warned of, what was to be ahead of now is.
        x = Check.cityOf("delay 1;corner p;extra e at p;happening a at p hour 0 great 1;happening b at p hour 5 great 1;"
            + "watcher w at p fears 1;");
        x.hour(1);
        due(x, 0, 6);
        x.plan(0, 0, 1);
        x.hour(1);
        due(x, 0, 6, 1);
        x.hour(1);
        due(x, 0, 6, 2);
        Check.due("never in time", x.happening(2, 3), 0);
        x.rule(6, 2);
        x.hour(1);
        due(x, 0, 6, 4);
        x.scare(0, 2);
        Check.fine(x, "in time now", x.hour(1), 1);
    }

    /** Terms ==== 2: none, if there is none: he WARNS all the same. */
    private static void termsWarnsWhenThereIsNone() {
        ExtraCaste x = Check.cityOf("corner p;corner q;extra e at p;happening a at p hour 0 great 1;happening b at q hour 9 great 1;"
            + "watcher w at p fears 1;");
        x.hour(1);
        x.hour(99);
        Check.due("warned", x.watcher(0, 2), 100);
        due(x, 0, 9);
        Check.due("b FAILED", x.happening(1, 3), 2);
        x = Check.cityOf("corner p;extra e at p;watcher w at p fears 1;");
        x.hour(1);
        Check.due("without HAPPENINGS", x.watcher(0, 2), 1);
    }

    private static ExtraCaste late(int delay, int hour) {
        ExtraCaste x = Check.cityOf("delay " + delay + ";corner p;extra e at p;happening h at p hour 999 great 1;"
            + "watcher w at p fears 1;");
        for (int left = hour - 999; left > 0; left -= Math.min(left, 99)) {
            x.put(0, Math.min(left, 99));
        }
        return x;
    }

    /** Terms ==== 2: DELAY HOURS later, 9,999 at most. */
    private static void termsDelaysToTheLastHour() {
        int[][] cases = {{24, 9974, 9998}, {24, 9975, 9999}, {24, 9976, 9999}, {24, 9999, 9999}, {1, 9998, 9999},
            {1, 9997, 9998}, {1, 9999, 9999}, {24, 999, 1023}};
        for (int[] c : cases) {
            ExtraCaste x = late(c[0], c[1]);
            Check.due("HOUR", x.happening(0, 1), c[1]);
            x.hour(1);
            Check.due("warned", x.watcher(0, 2), 1);
            Check.due(c[0] + " from " + c[1], x.happening(0, 1), c[2]);
        }
        ExtraCaste x = late(24, 9999);
        Check.fine(x, "ahead, too", x.warnedIn(0, 300), 300);
        x.hour(9);
        Check.due("9,999", x.happening(0, 1), 9999);
    }

    /** Terms ==== 2: WATCHER by WATCHER, by numbers: each sees what those ahead of him had put off. */
    private static void termsWatcherByWatcher() {
        ExtraCaste x = Check.cityOf("delay 3;corner p;extra e at p;happening a at p hour 5 great 1;happening b at p hour 6 great 1;"
            + Edge.many("watcher w# at p fears 1;", 4));
        // a to 8, b to 9, a to 11, b to 12.
        x.hour(1);
        due(x, 11, 12);
        for (int w = 0; w < 4; w++) {
            Check.due("each", x.watcher(w, 2), 1);
        }
    }

    /** Terms ==== 2: EXTRAS walk, then HAPPENINGS come about, then WATCHERS warn, by the same HOUR. */
    private static void termsExtrasThenHappeningsThenWatchers() {
        ExtraCaste x = Check.cityOf("delay 2;" + PQ + "road p q takes 1;extra e at p;happening h at q hour 0 great 1;"
            + "happening i at q hour 1 great 1;watcher w at q fears 1;roster e h i;");
        Check.fine(x, "walked to it in its HOUR", x.hour(1), 1);
        Check.due("warned of the next", x.happening(1, 1), 3);
        Check.due("not of that", x.happening(0, 1), 0);
        // What a WATCHER puts off goes by the new HOUR from the next HOUR on.
        x = Check.cityOf("delay 1;corner p;extra e at p;happening h at p hour 1 great 1;watcher w at p fears 1;");
        x.hour(20);
        Check.due("always an HOUR ahead", x.happening(0, 1), 21);
        x.scare(0, 2);
        Check.fine(x, "an HOUR more", x.hour(1), 0);
        Check.fine(x, "then it comes", x.hour(1), 1);
        // HAPPENINGS of one HOUR, by numbers, with those who stand there.
        x = Check.cityOf(PQ + "extra e at p;happening h at p hour 0 great 1;happening i at p hour 0 great 1;"
            + "happening j at p hour 0 great 2;");
        Check.fine(x, "two of three", x.hour(1), 2);
    }

    /** Terms ==== 2: GOAL: that with the least HOUR, of several the first; promise 32: 6: none. */
    private static void promise32LeastHourTheFirst() {
        Edge.refused("none on his ROSTER", Edge::town, x -> x.goal(1), 6);
        ExtraCaste x = Check.cityOf("corner p;extra e at p;" + Edge.many("happening h# at p hour 7 great 1;", 8)
            + "roster e hh hb hg;");
        Check.fine(x, "of several the first", x.goal(0), 1);
        x.put(1, 1);
        Check.fine(x, "the next", x.goal(0), 6);
        x.put(6, 1);
        Check.fine(x, "the least HOUR", x.goal(0), 7);
        x.put(7, 2);
        Check.fine(x, "the first again", x.goal(0), 1);
        x.hour(9);
        Check.fine(x, "of those TO COME", x.goal(0), 7);
        x.hour(1);
        Check.refused(x, "all over", x.goal(0), 6);
        Check.fine(x, "order", x.order(0, 0, true));
        Check.refused(x, "what is over is none", x.goal(0), 6);
        x = Check.cityOf("corner p;corner q;extra e at p;");
        x.hour(5);
        x.plan(1, 3, 1);
        x.order(0, 0, true);
        Check.fine(x, "what was to be ahead of now", x.goal(0), 0);
    }
}
