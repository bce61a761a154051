/** Boundary cases of CAN ATTEND, BEST, FEWEST (Terms ==== 3) and of promises 39 to 43: attends() to fewestSet(). */
public final class EdgeRostersTest {
    private static final String MAP = "corner p;corner q;corner r;corner s;road p q takes 2;road q r takes 3;";

    public static void main(String[] args) {
        promise39ASetWithWhatThereIsNoneOf();
        promise39NotToComeOrAheadOfNow();
        promise39TheEmptyAndTheFullSet();
        termsFromWhereHeStands();
        termsFromHisRoadsEnd();
        termsFromOneToTheNext();
        termsByTheirHoursInAnyOrder();
        termsAsAllIsNow();
        termsDelaysNotAsked();
        promises40And41ByWagesThenFewerThenLess();
        promises40And41None();
        promises42And43NobodyToAll();
        promises42And43TheLeastSet();
        promises42And43NotByAll();
        Check.end();
    }

    private static ExtraCaste withHappenings(int many) {
        return Check.cityOf("corner p;extra e at p;" + Edge.many("happening h# at p hour 1 great 1;", many));
    }

    /** Promise 39, Terms ==== 5: 1: a set with what there is none of. */
    private static void promise39ASetWithWhatThereIsNoneOf() {
        for (int many = 0; many <= 8; many++) {
            int n = many;
            Edge.above("sets of " + many, () -> withHappenings(n), 1, (1 << many) - 1, (x, set) -> x.attends(0, set));
            Edge.below("sets of " + many, () -> withHappenings(n), 1, 0, (x, set) -> x.attends(0, set));
        }
        Edge.refused("one that there is, one that is none", () -> withHappenings(3), x -> x.attends(0, 9), 1);
        Edge.refused("the highest bit", () -> withHappenings(8), x -> x.attends(0, 1 << 31), 1);
        Edge.refused("a bit far up", () -> withHappenings(8), x -> x.attends(0, 1 << 30), 1);
        Edge.refused("no EXTRA", () -> Check.cityOf("corner p;"), x -> x.attends(0, 0), 1);
    }

    /** Promise 39: 7: one of it is not TO COME, or was to be ahead of now. */
    private static void promise39NotToComeOrAheadOfNow() {
        Edge.Made made = () -> {
            ExtraCaste x = Check.cityOf(MAP + "extra a at p;happening t at p hour 0 great 1;happening u at p hour 0 great 2;"
                + "happening v at p hour 5 great 1;");
            x.hour(5);
            x.plan(0, 4, 1);
            x.plan(0, 5, 1);
            return x;
        };
        Edge.refused("one that HAPPENED", made, x -> x.attends(0, 1), 7);
        Edge.refused("one that FAILED", made, x -> x.attends(0, 2), 7);
        Edge.refused("one that was to be an HOUR ago", made, x -> x.attends(0, 8), 7);
        Edge.refused("with others", made, x -> x.attends(0, 13), 7);
        Edge.refused("all", made, x -> x.attends(0, 31), 7);
        Edge.taken("those of now", made, x -> x.attends(0, 20), 1);
        Edge.refused("1 ahead of 7", made, x -> x.attends(0, 33), 1);
        Edge.refused("1 ahead of 7", made, x -> x.attends(1, 1), 1);
    }

    /** Promise 39: none of them can always be attended. */
    private static void promise39TheEmptyAndTheFullSet() {
        Edge.taken("none", () -> withHappenings(0), x -> x.attends(0, 0), 1);
        Edge.taken("none of eight", () -> withHappenings(8), x -> x.attends(0, 0), 1);
        Edge.taken("all eight, in one HOUR", () -> withHappenings(8), x -> x.attends(0, 255), 1);
    }

    /** Terms ==== 3: from HOUR t on he stands in HOUR h at a CORNER d HOURS away, if d is h less t and 1, or less. */
    private static void termsFromWhereHeStands() {
        for (int t : new int[] {0, 7, 9999}) {
            for (int far = 0; far < 3; far++) {
                int d = far == 0 ? 0 : far == 1 ? 2 : 5;
                int corner = far;
                for (int h = t; h <= t + 6; h++) {
                    ExtraCaste x = Check.cityOf(MAP + "extra a at p;");
                    for (int left = t; left > 0; left -= Math.min(left, 99)) {
                        x.hour(Math.min(left, 99));
                    }
                    x.plan(corner, Math.min(999, h), 1);
                    boolean late = false;
                    for (int left = h - Math.min(999, h); left > 0; left -= Math.min(left, 99)) {
                        late |= x.put(0, Math.min(left, 99)) == ExtraCaste.NONE;
                    }
                    if (!late) {
                        Check.fine(x, d + " away in " + h + " from " + t, x.attends(0, 1), d <= h - t + 1 ? 1 : 0);
                    }
                }
            }
        }
        ExtraCaste x = Check.cityOf(MAP + "extra a at s;happening t at p hour 999 great 1;happening u at s hour 0 great 1;");
        Check.fine(x, "no way", x.attends(0, 1), 0);
        Check.fine(x, "he is there", x.attends(0, 2), 1);
    }

    /** Terms ==== 3: on a ROAD: from its end, behind what he has to go. */
    private static void termsFromHisRoadsEnd() {
        // In HOUR 1 a has two more to go: he stands at q in HOUR 2, and from HOUR 3 on at p 3 HOURS away in HOUR 5.
        for (int h = 1; h <= 7; h++) {
            ExtraCaste x = Check.cityOf("corner p;corner q;road p q takes 3;extra a at p;happening g at q hour 900 great 1;roster a g;");
            x.hour(1);
            Check.due("to go", x.extra(0, 1), 2);
            x.plan(1, h, 1);
            x.plan(0, h, 1);
            Check.fine(x, "at its end in " + h, x.attends(0, 2), h >= 2 ? 1 : 0);
            Check.fine(x, "back in " + h, x.attends(0, 4), h >= 5 ? 1 : 0);
        }
        // With one to go he stands there in the same HOUR.
        ExtraCaste x = Check.cityOf("corner p;corner q;road p q takes 2;extra a at p;happening g at q hour 1 great 1;roster a g;");
        x.hour(1);
        Check.fine(x, "one to go", x.attends(0, 1), 1);
        Check.fine(x, "it comes to that", x.becomes(0), 1);
    }

    /** Terms ==== 3: from a HAPPENING at HOUR h at one at HOUR i, if d is i less h, or less; of one HOUR by numbers. */
    private static void termsFromOneToTheNext() {
        for (int i = 3; i <= 9; i++) {
            ExtraCaste x = Check.cityOf(MAP + "extra a at p;happening t at q hour 4 great 1;happening u at r hour " + i + " great 1;");
            Check.fine(x, "4 and " + i, x.attends(0, 3), i >= 7 ? 1 : 0);
        }
        ExtraCaste x = Check.cityOf(MAP + "extra a at p;happening t at q hour 4 great 1;happening u at q hour 4 great 1;"
            + "happening v at p hour 4 great 1;happening w at p hour 2 great 1;");
        Check.fine(x, "two of one HOUR at one CORNER", x.attends(0, 3), 1);
        Check.fine(x, "two of one HOUR at two", x.attends(0, 5), 0);
        Check.fine(x, "by their HOURS, not by numbers", x.attends(0, 9), 1);
        Check.fine(x, "by their HOURS, all at q", x.attends(0, 11), 1);
        x.put(3, 1);
        Check.fine(x, "an HOUR too late", x.attends(0, 9), 0);
        x = Check.cityOf(MAP + "extra a at p;happening t at s hour 9 great 1;happening u at p hour 1 great 1;");
        Check.fine(x, "no way from the one to the other", x.attends(0, 3), 0);
    }

    /** Terms ==== 3: one behind the other by their HOURS, however they are numbered: four at four CORNERS in a row. */
    private static void termsByTheirHoursInAnyOrder() {
        for (int code = 0; code < 256; code++) {
            int[] hour = {code & 3, code >> 2 & 3, code >> 4 & 3, code >> 6};
            StringBuilder b = new StringBuilder("corner ca;corner cb;corner cc;corner cd;road ca cb takes 1;road cb cc takes 1;"
                + "road cc cd takes 1;extra e at cb;");
            for (int h = 0; h < 4; h++) {
                char c = (char) ('a' + h);
                b.append("happening h").append(c).append(" at c").append(c).append(" hour ").append(hour[h]).append(" great 1;");
            }
            ExtraCaste x = Check.cityOf(b.toString());
            for (int set = 0; set < 16; set++) {
                Check.fine(x, "HOURS " + code + " set " + set, x.attends(0, set), canWalk(hour, set) ? 1 : 0);
            }
        }
    }

    private static boolean canWalk(int[] hour, int set) {
        int corner = 1;
        int last = -1;
        for (int now = 0; now < 4; now++) {
            for (int h = 0; h < 4; h++) {
                if ((set >> h & 1) == 1 && hour[h] == now) {
                    if (Math.abs(h - corner) > now - last) {
                        return false;
                    }
                    corner = h;
                    last = now;
                }
            }
        }
        return true;
    }

    /** Promises 39 to 43: as all is now: what was asked ahead of it leaves no trace. */
    private static void termsAsAllIsNow() {
        ExtraCaste x = Check.cityOf("corner p;corner q;corner r;road p q takes 1;extra e at p;happening h at p hour 0 great 4;"
            + "happening i at p hour 1 great 1;happening j at q hour 2 great 2;happening k at r hour 9 great 3;");
        Check.fine(x, "three of four", x.attends(0, 7), 1);
        Check.fine(x, "BEST's WAGES, asked first", x.bestWages(0), 7);
        Check.fine(x, "BEST", x.best(0), 7);
        Check.refused(x, "r is apart", x.fewest(), 6);
        x.hour(1);
        Check.refused(x, "h is over", x.attends(0, 1), 7);
        Check.refused(x, "h is over", x.attends(0, 7), 7);
        Check.fine(x, "BEST without h", x.best(0), 6);
        Check.fine(x, "BEST's WAGES without h", x.bestWages(0), 3);
        x.hour(2);
        Check.fine(x, "none that can be attended", x.best(0), 0);
        x.plan(0, 3, 1);
        Check.fine(x, "one more", x.best(0), 16);
        Check.fine(x, "one more", x.attends(0, 16), 1);
        x.bear(2);
        Check.fine(x, "two", x.fewestSet(), 3);
        x.hour(9);
        Check.fine(x, "all over", x.fewest(), 0);
        Check.fine(x, "all over", x.bestWages(0), 0);
        Check.refused(x, "all over", x.attends(0, 16), 7);
        // WAGES of one who is asked first of all.
        Edge.taken("BEST's WAGES of a new object", () -> withHappenings(3), y -> y.bestWages(0), 3);
        Edge.taken("FEWEST's set of a new object", () -> withHappenings(3), ExtraCaste::fewestSet, 1);
    }

    /** Terms ==== 3: delays not asked. */
    private static void termsDelaysNotAsked() {
        ExtraCaste x = Check.cityOf("delay 24;" + MAP + "extra a at p;happening t at p hour 1 great 1;watcher w at p fears 1;");
        Check.refused(x, "it is put off each HOUR", x.overIn(0), 6);
        Check.fine(x, "he CAN ATTEND it as it is", x.attends(0, 1), 1);
        Check.fine(x, "BEST", x.best(0), 1);
        Check.fine(x, "FEWEST", x.fewest(), 1);
    }

    /** Promises 40, 41: the most WAGES, then the fewest HAPPENINGS, then the least as a number. */
    private static void promises40And41ByWagesThenFewerThenLess() {
        // Two of one HOUR at two CORNERS: either, not both.
        String two = "corner p;corner q;road p q takes 1;extra a at p;happening t at p hour 5 great 2;happening u at q hour 5 great 2;";
        ExtraCaste x = Check.cityOf(two);
        best(x, 1, 2);
        x.raise(1, 3);
        best(x, 2, 3);
        x.raise(0, 4);
        best(x, 1, 4);
        // Two small ones at p against one as great at q: the fewer.
        x = Check.cityOf("wage 99;corner p;corner q;road p q takes 1;extra a at p;happening t at p hour 5 great 1;"
            + "happening u at p hour 5 great 1;happening v at q hour 5 great 2;");
        best(x, 4, 198);
        x.plan(0, 5, 1);
        best(x, 11, 297);
        x.raise(2, 3);
        best(x, 4, 297);
        x = Check.cityOf("wage 99;corner p;extra a at p;" + Edge.many("happening h# at p hour 5 great 4;", 8));
        best(x, 255, 3168);
    }

    private static void best(ExtraCaste x, int set, int wages) {
        Check.fine(x, "BEST", x.best(0), set);
        Check.fine(x, "BEST's WAGES", x.bestWages(0), wages);
    }

    /** Promises 40, 41: the empty set, where there is nothing to attend, or no WAGE for it. */
    private static void promises40And41None() {
        best(withHappenings(0), 0, 0);
        ExtraCaste x = withHappenings(8);
        x.hour(2);
        best(x, 0, 0);
        x = withHappenings(7);
        x.rule(5, 0);
        best(x, 0, 0);
        x.rule(5, 1);
        best(x, 127, 7);
        x.hour(1);
        best(x, 127, 7);
        x.plan(0, 0, 4);
        best(x, 127, 7);
        x = Check.cityOf(MAP + "extra a at p;happening t at s hour 5 great 4;");
        best(x, 0, 0);
        Edge.refused("no EXTRA", () -> Check.cityOf("corner p;"), y -> y.best(0), 1);
        Edge.refused("no EXTRA", () -> Check.cityOf("corner p;"), y -> y.bestWages(0), 1);
    }

    private static void fewest(ExtraCaste x, int many, int set) {
        Check.fine(x, "FEWEST", x.fewest(), many);
        Check.fine(x, "FEWEST's set", x.fewestSet(), set);
    }

    /** Promises 42, 43: nobody where there is nothing to attend; all seven. */
    private static void promises42And43NobodyToAll() {
        fewest(new ExtraCaste(), 0, 0);
        fewest(withHappenings(0), 0, 0);
        fewest(Check.cityOf("corner p;"), 0, 0);
        fewest(withHappenings(8), 1, 1);
        ExtraCaste x = withHappenings(7);
        x.hour(2);
        fewest(x, 0, 0);
        x.plan(0, 1, 1);
        fewest(x, 0, 0);
        String seven = Edge.many("corner c#;", 8);
        StringBuilder b = new StringBuilder(seven);
        for (char c = 'a'; c < 'h'; c++) {
            b.append("extra e").append(c).append(" at c").append(c).append(";happening h").append(c).append(" at c").append(c)
                .append(" hour 3 great 1;");
        }
        fewest(Check.cityOf(b.toString()), 7, 127);
        fewest(Check.cityOf(b + "road ca cb takes 9;"), 7, 127);
        fewest(Check.cityOf(b.toString().replace("hour 3", "hour 0")), 7, 127);
    }

    /** Promise 43: of several sets of EXTRAS the least as a number. */
    private static void promises42And43TheLeastSet() {
        ExtraCaste x = Check.cityOf("corner p;" + Edge.many("extra e# at p;", 7) + "happening h at p hour 0 great 4;");
        fewest(x, 1, 1);
        x = Check.cityOf("corner p;corner q;extra a at q;extra b at p;extra c at p;happening h at p hour 0 great 4;");
        fewest(x, 1, 2);
        x.plan(1, 0, 1);
        fewest(x, 2, 3);
        x = Check.cityOf("corner p;corner q;road p q takes 2;extra a at q;extra b at p;extra c at q;"
            + "happening h at p hour 3 great 1;happening i at q hour 5 great 1;");
        fewest(x, 1, 1);
        x.put(0, 1);
        fewest(x, 2, 3);
        // a and b, a lesser number, attend all together, c attends all alone: the fewest come first.
        String alone = "corner p;corner q;corner r;road p q takes 2;road q r takes 3;extra a at p;extra b at r;extra c at q;"
            + "happening t at q hour 0 great 1;happening u at r hour 4 great 1;happening v at p hour 9 great 1;";
        fewest(Check.cityOf(alone), 1, 4);
        fewest(Check.cityOf(alone + "happening w at q hour 12 great 1;"), 1, 4);
        // One behind the other, each from the one ahead of it alone: by one EXTRA, then by as many as are late.
        String row = "corner p;corner q;corner r;road p q takes 2;road q r takes 2;extra a at p;extra b at p;extra c at p;"
            + "happening t at p hour 0 great 1;happening u at q hour 2 great 1;happening v at r hour 4 great 1;";
        fewest(Check.cityOf(row), 1, 1);
        fewest(Check.cityOf(row.replace("hour 4", "hour 3")), 2, 3);
        fewest(Check.cityOf(row.replace("hour 2", "hour 1").replace("hour 4", "hour 3")), 2, 3);
        fewest(Check.cityOf(row + "happening w at p hour 2 great 1;"), 2, 3);
        fewest(Check.cityOf(row + "happening w at p hour 2 great 1;happening y at r hour 3 great 1;"), 3, 7);
        // Numbered from the last to the first, all eight.
        StringBuilder b = new StringBuilder("corner p;corner q;road p q takes 2;extra a at p;extra b at q;");
        for (int h = 0; h < 8; h++) {
            b.append("happening h").append((char) ('a' + h)).append(" at ").append(h % 2 == 1 ? 'p' : 'q').append(" hour ")
                .append(2 * (7 - h)).append(" great 1;");
        }
        fewest(Check.cityOf(b.toString()), 1, 1);
        fewest(Check.cityOf(b.toString().replace("hour 0", "hour 1")), 2, 3);
        fewest(Check.cityOf(b.toString().replace("hour 14", "hour 13")), 2, 3);
    }

    /** Promises 42, 43: 6: not by all. */
    private static void promises42And43NotByAll() {
        Edge.Made none = () -> Check.cityOf("corner p;happening h at p hour 0 great 1;");
        Edge.refused("no EXTRAS", none, ExtraCaste::fewest, 6);
        Edge.refused("no EXTRAS", none, ExtraCaste::fewestSet, 6);
        Edge.Made apart = () -> Check.cityOf(MAP + "extra a at p;extra b at q;happening h at s hour 99 great 1;");
        Edge.refused("no way", apart, ExtraCaste::fewest, 6);
        Edge.refused("no way", apart, ExtraCaste::fewestSet, 6);
        // Three of one HOUR at three CORNERS, two EXTRAS.
        Edge.Made few = () -> Check.cityOf("corner p;corner q;corner r;road p q takes 1;road q r takes 1;extra a at p;extra b at q;"
            + "happening h at p hour 9 great 1;happening i at q hour 9 great 1;happening j at r hour 9 great 1;");
        Edge.refused("one too few", few, ExtraCaste::fewest, 6);
        Edge.refused("one too few", few, ExtraCaste::fewestSet, 6);
        ExtraCaste x = few.make();
        x.bear(2);
        fewest(x, 3, 7);
    }
}
