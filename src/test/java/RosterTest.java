/** Promises 39 to 43: attends(), best(), bestWages(), fewest(), fewestSet(). */
public final class RosterTest {
    private static final String MAP = "corner p;corner q;corner r;corner s;road p q takes 2;road q r takes 3;";

    public static void main(String[] args) {
        attendsByHours();
        attendsFromARoad();
        refusesSets();
        finds();
        findsFewest();
        Check.end();
    }

    private static void attendsByHours() {
        ExtraCaste x = Check.cityOf(MAP + "extra a at p;happening t at r hour 4 great 1;happening u at q hour 1 great 1;"
            + "happening v at q hour 0 great 1;happening w at q hour 1 great 1;happening y at p hour 1 great 1;"
            + "happening z at s hour 99 great 1;");
        Check.fine(x, "5 HOURS away, in HOUR 4", x.attends(0, 1), 1);
        Check.fine(x, "2 HOURS away, in HOUR 1", x.attends(0, 2), 1);
        Check.fine(x, "2 HOURS away, in HOUR 0", x.attends(0, 4), 0);
        Check.fine(x, "one behind the other", x.attends(0, 3), 1);
        Check.fine(x, "two of one HOUR at one CORNER", x.attends(0, 11), 1);
        Check.fine(x, "two of one HOUR at two", x.attends(0, 18), 0);
        Check.fine(x, "no way", x.attends(0, 32), 0);
        Check.fine(x, "none", x.attends(0, 0), 1);
        x.put(1, 1);
        Check.fine(x, "from HOUR 2 to HOUR 4 is too short", x.attends(0, 3), 0);
        x.put(0, 1);
        Check.fine(x, "to HOUR 5 is enough", x.attends(0, 3), 1);
        x.hour(1);
        Check.fine(x, "a stayed: 5 HOURS away, in HOUR 5", x.attends(0, 1), 1);
        x.hour(1);
        Check.fine(x, "in HOUR 2", x.attends(0, 1), 0);
    }

    private static void attendsFromARoad() {
        ExtraCaste x = Check.cityOf(MAP + "extra a at r;happening t at q hour 2 great 1;happening u at p hour 4 great 1;"
            + "happening v at r hour 5 great 1;roster a t;");
        x.hour(1);
        Check.due("two to go", x.extra(0, 1), 2);
        Check.fine(x, "at the end in time", x.attends(0, 1), 1);
        Check.fine(x, "and on", x.attends(0, 3), 1);
        Check.fine(x, "the end first, then back", x.attends(0, 4), 1);
        Check.fine(x, "not both", x.attends(0, 6), 0);
        x.plan(1, 1, 1);
        Check.fine(x, "at the end ahead of him", x.attends(0, 8), 0);
        x.hour(1);
        x.put(0, 1);
        Check.fine(x, "one to go", x.attends(0, 1), 1);
        Check.fine(x, "too late to go on", x.attends(0, 3), 0);
        Check.fine(x, "u alone", x.attends(0, 2), 1);
    }

    private static void refusesSets() {
        ExtraCaste x = Check.cityOf(MAP + "extra a at p;happening t at p hour 0 great 1;happening u at p hour 9 great 1;");
        Check.refused(x, "extra 1", x.attends(1, 0), 1);
        Check.refused(x, "extra -1", x.attends(-1, 0), 1);
        Check.refused(x, "a set below 0", x.attends(0, -1), 1);
        Check.refused(x, "no third", x.attends(0, 4), 1);
        x.hour(5);
        Check.refused(x, "not TO COME", x.attends(0, 1), 7);
        Check.refused(x, "not TO COME", x.attends(0, 3), 7);
        Check.fine(x, "plan", x.plan(0, 4, 1), 2);
        Check.refused(x, "ahead of now", x.attends(0, 4), 7);
        Check.fine(x, "plan", x.plan(0, 5, 1), 3);
        Check.fine(x, "now", x.attends(0, 8), 1);
    }

    private static void finds() {
        ExtraCaste x = Check.cityOf("wage 5;" + MAP + "extra a at p;extra b at s;happening t at r hour 4 great 2;"
            + "happening u at q hour 3 great 1;happening v at p hour 0 great 1;happening w at p hour 3 great 2;");
        // t and v: HOUR 0 at p, 5 HOURS to r: too late; u and t: 3 HOURS in one; w with v: 3.
        Check.fine(x, "best", x.best(0), 12);
        Check.fine(x, "wages", x.bestWages(0), 15);
        Check.fine(x, "none for b", x.best(1), 0);
        Check.fine(x, "no wages for b", x.bestWages(1), 0);
        x.plan(0, 3, 4);
        Check.fine(x, "wages anew", x.bestWages(0), 35);
        Check.fine(x, "best anew", x.best(0), 28);
        x.raise(4, 1);
        x.put(4, 1);
        x.raise(0, 4);
        Check.fine(x, "of as good ones the fewer", x.best(0), 1);
        Check.fine(x, "wages", x.bestWages(0), 20);
        x.rule(5, 0);
        Check.fine(x, "without WAGE", x.best(0), 0);
        Check.fine(x, "without WAGE", x.bestWages(0), 0);
        Check.refused(x, "extra 2", x.best(2), 1);
        Check.refused(x, "extra -1", x.best(-1), 1);
        Check.refused(x, "extra 2", x.bestWages(2), 1);
        Check.refused(x, "extra -1", x.bestWages(-1), 1);
        x = Check.cityOf(MAP + "extra a at q;happening t at r hour 3 great 2;happening u at p hour 3 great 2;");
        Check.fine(x, "of as few ones the least", x.best(0), 1);
        x.hour(9);
        Check.fine(x, "nothing to come", x.best(0), 0);
        x = Check.cityOf(MAP + "extra a at q;happening t at q hour 3 great 2;happening u at p hour 5 great 2;");
        Check.fine(x, "all", x.best(0), 3);
        Check.fine(x, "all", x.bestWages(0), 4);
    }

    private static void findsFewest() {
        ExtraCaste x = Check.cityOf(MAP + "extra a at s;extra b at r;extra c at p;extra d at q;"
            + "happening t at p hour 3 great 1;happening u at r hour 3 great 1;happening v at q hour 8 great 4;");
        // One for p, one for r; both b and d come to r, c and d to p.
        Check.fine(x, "fewest", x.fewest(), 2);
        Check.fine(x, "the least set", x.fewestSet(), 6);
        x.plan(2, 6, 1);
        Check.fine(x, "u, r at HOUR 6 by one", x.fewestSet(), 6);
        x.plan(3, 8, 1);
        Check.fine(x, "s needs a", x.fewestSet(), 7);
        Check.fine(x, "three", x.fewest(), 3);
        x.plan(0, 0, 1);
        x.plan(2, 0, 1);
        Check.fine(x, "still", x.fewestSet(), 7);
        x.plan(1, 0, 1);
        Check.fine(x, "all", x.fewest(), 4);
        ExtraCaste z = Check.cityOf(MAP + "extra a at p;extra b at r;extra c at q;happening t at p hour 1 great 1;"
            + "happening u at r hour 6 great 1;");
        z.put(0, 1);
        Check.fine(z, "a alone: p in HOUR 2, r in HOUR 7 only", z.fewestSet(), 3);
        z.put(1, 1);
        Check.fine(z, "fewer", z.fewestSet(), 1);
        z = Check.cityOf(MAP + "extra a at p;extra b at r;extra c at q;happening t at q hour 0 great 1;"
            + "happening u at r hour 4 great 1;happening v at p hour 9 great 1;");
        z.plan(1, 12, 1);
        Check.fine(z, "one", z.fewest(), 1);
        Check.fine(z, "not a and b, but c alone", z.fewestSet(), 4);
        ExtraCaste y = Check.cityOf(MAP + "extra a at p;happening t at s hour 3 great 1;");
        Check.refused(y, "not by all", y.fewest(), 6);
        Check.refused(y, "not by all", y.fewestSet(), 6);
        y.hour(9);
        Check.fine(y, "nothing to come", y.fewest(), 0);
        Check.fine(y, "nobody", y.fewestSet(), 0);
    }
}
