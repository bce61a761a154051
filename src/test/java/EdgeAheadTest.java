/** Boundary cases of promises 33 to 38: whereIn(), standingIn(), overIn(), becomes(), wagesIn(), warnedIn(). */
public final class EdgeAheadTest {
    public static void main(String[] args) {
        promises33To38InNoHours();
        promise33InThreeHundred();
        promise35InNoneToThreeHundred();
        promise35WhatIsOver();
        promise35NeverToCome();
        promise36WhatBecomesOfIt();
        promises37And38ToThreeHundred();
        termsAheadOfTheLastHour();
        termsOnlyHoursGoBy();
        promises33To38LeaveAllAsItIs();
        Check.end();
    }

    /** In 0 HOURS all is as it is now. */
    private static void promises33To38InNoHours() {
        ExtraCaste x = Check.cityOf("wage 4;corner p;corner q;road p q takes 3;extra e at p;extra f at q;"
            + "happening h at q hour 0 great 1;happening i at q hour 9 great 1;watcher w at q fears 1;roster e i;");
        for (int hour = 0; hour < 12; hour++) {
            for (int e = 0; e < 2; e++) {
                Check.fine(x, "where", x.whereIn(e, 0), x.extra(e, 0));
                Check.fine(x, "WAGES", x.wagesIn(e, 0), x.extra(e, 3));
                Check.fine(x, "standing", x.standingIn(e, 0), x.standing(e));
            }
            Check.fine(x, "warned", x.warnedIn(0, 0), x.watcher(0, 2));
            x.hour(1);
        }
    }

    /** Hours 0 to 300: what will be in 299, in 300, in 301 HOURS; the answers are those of now when they have gone by. */
    private static void promise33InThreeHundred() {
        String city = "corner p;corner q;road p q takes 2;extra e at p;happening h at q hour 298 great 1;"
            + "happening i at p hour 900 great 1;roster e h i;";
        ExtraCaste x = Check.cityOf(city);
        Check.fine(x, "at q in 299", x.whereIn(0, 299), 1);
        Check.fine(x, "back to p in 300", x.whereIn(0, 300), 10);
        Check.fine(x, "q in 299", x.standingIn(1, 299), 1);
        Check.fine(x, "q in 300", x.standingIn(1, 300), 0);
        Check.fine(x, "p in 300", x.standingIn(0, 300), 0);
        Check.refused(x, "in 301", x.whereIn(0, 301), 1);
        Check.refused(x, "in 301", x.standingIn(0, 301), 1);
        x.hour(1);
        Check.fine(x, "at p in 300", x.whereIn(0, 300), 0);
        Check.fine(x, "on the ROAD in 299", x.whereIn(0, 299), 10);
    }

    /** Promise 35: in how many HOURS (0 to 300) it is not TO COME first: what is to be in HOUR 299 in 300. */
    private static void promise35InNoneToThreeHundred() {
        ExtraCaste x = Check.cityOf("corner p;happening a at p hour 0 great 1;happening b at p hour 298 great 1;"
            + "happening c at p hour 299 great 1;happening d at p hour 300 great 1;happening e at p hour 301 great 1;");
        Check.fine(x, "in 1", x.overIn(0), 1);
        Check.fine(x, "in 299", x.overIn(1), 299);
        Check.fine(x, "in 300", x.overIn(2), 300);
        Check.refused(x, "in 301", x.overIn(3), 6);
        Check.refused(x, "in 302", x.overIn(4), 6);
        Check.fine(x, "FAILS", x.becomes(2), 2);
        Check.refused(x, "P36 in 301", x.becomes(3), 6);
        x.hour(1);
        Check.fine(x, "over", x.overIn(0), 0);
        Check.fine(x, "in 300", x.overIn(3), 300);
        Check.refused(x, "in 301", x.overIn(4), 6);
        Check.fine(x, "P36 in 300", x.becomes(3), 2);
        Check.refused(x, "P36 in 301", x.becomes(4), 6);
    }

    /** Promise 35: 0 for what is over, however long ago. */
    private static void promise35WhatIsOver() {
        ExtraCaste x = Check.cityOf("corner p;extra e at p;happening a at p hour 0 great 1;happening b at p hour 0 great 2;");
        x.hour(1);
        Check.fine(x, "HAPPENED", x.overIn(0), 0);
        Check.fine(x, "FAILED", x.overIn(1), 0);
        Check.fine(x, "P36 HAPPENED", x.becomes(0), 1);
        Check.fine(x, "P36 FAILED", x.becomes(1), 2);
        x.hour(99);
        Check.fine(x, "HAPPENED", x.overIn(0), 0);
        Check.fine(x, "P36 FAILED", x.becomes(1), 2);
    }

    /** Promise 35: 6: what was to be ahead of now, and what is put off for ever. */
    private static void promise35NeverToCome() {
        ExtraCaste x = Check.cityOf("delay 1;corner p;corner q;extra e at p;happening a at p hour 1 great 1;watcher w at p fears 1;");
        Check.refused(x, "put off each HOUR", x.overIn(0), 6);
        Check.refused(x, "put off each HOUR", x.becomes(0), 6);
        x.hour(9);
        x.plan(1, 8, 1);
        Check.refused(x, "ahead of now", x.overIn(1), 6);
        Check.refused(x, "ahead of now", x.becomes(1), 6);
        x.put(1, 1);
        Check.fine(x, "now", x.overIn(1), 1);
    }

    /** Promise 36: as happening() tells: 1 or 2. */
    private static void promise36WhatBecomesOfIt() {
        for (int great = 1; great <= 4; great++) {
            ExtraCaste x = Check.cityOf("corner p;extra e at p;extra f at p;happening a at p hour 299 great " + great + ";");
            Check.fine(x, "GREAT " + great, x.becomes(0), great <= 2 ? 1 : 2);
            Check.due("TO COME", x.happening(0, 3), 0);
        }
    }

    /** Promises 37, 38: what there is by then, what there was ahead counted in. */
    private static void promises37And38ToThreeHundred() {
        ExtraCaste x = Check.cityOf("wage 2;corner p;extra e at p;happening a at p hour 299 great 1;happening b at p hour 300 great 1;"
            + "watcher w at p fears 1;");
        x.post(0, 0);
        x.scare(0, 2);
        Check.fine(x, "in 299", x.wagesIn(0, 299), 0);
        Check.fine(x, "in 300", x.wagesIn(0, 300), 2);
        Check.refused(x, "in 301", x.wagesIn(0, 301), 1);
        Check.fine(x, "warned in 300", x.warnedIn(0, 300), 0);
        x.hour(1);
        Check.fine(x, "in 298", x.wagesIn(0, 298), 0);
        Check.fine(x, "in 299", x.wagesIn(0, 299), 2);
        Check.fine(x, "in 300", x.wagesIn(0, 300), 4);
        x = Check.cityOf("corner p;extra e at p;watcher w at p fears 1;");
        Check.fine(x, "warned in 0", x.warnedIn(0, 0), 0);
        Check.fine(x, "warned in 1", x.warnedIn(0, 1), 1);
        Check.fine(x, "warned in 300", x.warnedIn(0, 300), 300);
        Check.refused(x, "warned in 301", x.warnedIn(0, 301), 1);
        x.hour(5);
        Check.fine(x, "what was ahead counted in", x.warnedIn(0, 300), 305);
    }

    /** Terms ==== 3: HOUR 9,999 does not matter: HOURS ahead go by behind it, too. */
    private static void termsAheadOfTheLastHour() {
        ExtraCaste x = Check.cityOf("corner p;corner q;road p q takes 4;extra e at p;happening h at q hour 999 great 1;"
            + "watcher w at q fears 1;");
        for (int i = 0; i < 101; i++) {
            x.hour(99);
        }
        x.plan(1, 999, 1);
        x.order(0, 1, true);
        Check.refused(x, "no HOUR goes by", x.hour(1), 4);
        Check.fine(x, "on the ROAD in 1", x.whereIn(0, 1), 11);
        Check.fine(x, "there in 4", x.whereIn(0, 4), 1);
        Check.fine(x, "standing in 300", x.standingIn(1, 300), 1);
        Check.fine(x, "warned in 300", x.warnedIn(0, 300), 297);
        Check.due("HOUR", x.told(8), 9999);
        Check.due("at p", x.extra(0, 0), 0);
    }

    /** Terms ==== 3: as only HOURS go by: no WEEKS, no falls. */
    private static void termsOnlyHoursGoBy() {
        ExtraCaste x = Edge.town();
        Check.weeks(x, "put u 50;order a u;any;hour 48;");
        Check.fine(x, "to q, for t", x.whereIn(0, 2), 1);
        Check.fine(x, "on to r, for u", x.whereIn(0, 3), 2);
        x.mark();
        x.hour(3);
        Check.due("as it was told", x.extra(0, 0), 2);
        Check.fine(x, "undo", x.undo(), 0);
    }

    /** What will be leaves all as it is. */
    private static void promises33To38LeaveAllAsItIs() {
        Edge.Asked[] calls = {x -> x.whereIn(0, 300), x -> x.standingIn(1, 300), x -> x.overIn(3), x -> x.becomes(3),
            x -> x.wagesIn(0, 300), x -> x.warnedIn(0, 300), x -> x.overIn(0), x -> x.becomes(0)};
        for (Edge.Asked call : calls) {
            ExtraCaste x = Edge.busy();
            call.on(x);
            Check.due("status", x.status(), 0);
            Check.due("nothing changes", Edge.look(x).equals(Edge.look(Edge.busy())), true);
        }
    }
}
