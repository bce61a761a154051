/** Boundary cases of FAR, WAY (Terms ==== 2), CUT (==== 3) and of promises 18, 28 to 31: road(), far(), way(), centre(), cut(). */
public final class EdgeWaysTest {
    private static final String EIGHT = Edge.many("corner c#;", 8);

    public static void main(String[] args) {
        promise18OneAndItself();
        promise28NothingAndTheMost();
        promise28NoWay();
        promise29OfSeveralTheFirst();
        promise29NearerByJustWhatTheRoadTakes();
        promise29OneAndItselfAheadOfNone();
        promise30OfSeveralTheFirst();
        promise30NoneToAll();
        promise31NoneToAll();
        promise31OneAndItself();
        Check.end();
    }

    private static String chain(int takes) {
        StringBuilder b = new StringBuilder(EIGHT);
        for (char c = 'a'; c < 'h'; c++) {
            b.append("road c").append(c).append(" c").append((char) (c + 1)).append(" takes ").append(takes).append(';');
        }
        return b.toString();
    }

    /** Promise 18: 1: one and itself, too; 6: there is none. */
    private static void promise18OneAndItself() {
        ExtraCaste x = Check.cityOf("corner p;corner q;corner r;road p q takes 9;");
        Check.fine(x, "the most", x.road(0, 1), 9);
        Check.fine(x, "both ways", x.road(1, 0), 9);
        Check.refused(x, "none", x.road(0, 2), 6);
        Check.refused(x, "none", x.road(2, 1), 6);
        for (int corner = 0; corner < 3; corner++) {
            Check.refused(x, "one and itself", x.road(corner, corner), 1);
        }
        Check.refused(x, "no such one", x.road(0, 3), 1);
        Check.refused(x, "no such one", x.road(-1, 0), 1);
        x = Check.cityOf("corner p;");
        Check.refused(x, "alone", x.road(0, 0), 1);
        Check.refused(x, "alone", x.road(0, 1), 1);
    }

    /** Promise 28: 0: one and itself; seven ROADS of 9 HOURS are the most. */
    private static void promise28NothingAndTheMost() {
        ExtraCaste x = Check.cityOf(chain(9));
        for (int a = 0; a < 8; a++) {
            for (int b = 0; b < 8; b++) {
                Check.fine(x, "FAR " + a + " " + b, x.far(a, b), 9 * Math.abs(a - b));
            }
        }
        x = Check.cityOf(chain(1));
        Check.fine(x, "the least", x.far(0, 1), 1);
        Check.fine(x, "seven", x.far(7, 0), 7);
        x = Check.cityOf(chain(1) + "road ca ch takes 7;");
        Check.fine(x, "as far either way", x.far(0, 7), 7);
        x = Check.cityOf(chain(1) + "road ca ch takes 6;");
        Check.fine(x, "one nearer", x.far(0, 7), 6);
        x = Check.cityOf(chain(1) + "road ca ch takes 8;");
        Check.fine(x, "one farther", x.far(0, 7), 7);
        for (char over = 'a'; over <= 'h'; over++) {
            StringBuilder b = new StringBuilder(EIGHT);
            for (char c = 'a'; c <= 'h'; c++) {
                b.append(c == over ? "" : "road c" + c + " c" + over + " takes 4;");
            }
            x = Check.cityOf(b.toString());
            int middle = over - 'a';
            for (int a = 0; a < 8; a++) {
                for (int c = 0; c < 8; c++) {
                    int ways = a == c ? 0 : a == middle || c == middle ? 1 : 2;
                    Check.fine(x, "over " + over + ": " + a + " " + c, x.far(a, c), 4 * ways);
                }
            }
            Check.fine(x, "P30 the middle", x.centre(), middle);
        }
    }

    /** Promise 28: 6: there is no way. */
    private static void promise28NoWay() {
        ExtraCaste x = Check.cityOf(EIGHT + "road ca cb takes 1;");
        Check.fine(x, "one and itself, without a ROAD", x.far(7, 7), 0);
        Check.fine(x, "the ROAD", x.far(1, 0), 1);
        Check.refused(x, "no way", x.far(0, 7), 6);
        Check.refused(x, "no way", x.far(7, 0), 6);
        Check.refused(x, "no way", x.far(6, 7), 6);
        Check.refused(x, "1 ahead of 6", x.far(0, 8), 1);
        Edge.taken("alone", () -> Check.cityOf("corner p;"), y -> y.far(0, 0), 0);
        Edge.refused("no CORNERS", ExtraCaste::new, y -> y.far(0, 0), 1);
    }

    /** Terms ==== 2: WAY, of several the first. */
    private static void promise29OfSeveralTheFirst() {
        String city = "corner p;corner q;corner r;corner s;road p r takes 2;road r s takes 2;road p q takes 1;road q s takes 3;";
        ExtraCaste x = Check.cityOf(city);
        Check.fine(x, "q ahead of r", x.way(0, 3), 1);
        Check.fine(x, "q ahead of r", x.way(3, 0), 1);
        x = Check.cityOf(city + "road p s takes 4;");
        Check.fine(x, "q ahead of s itself", x.way(0, 3), 1);
        Check.fine(x, "p itself ahead of q", x.way(3, 0), 0);
        x = Check.cityOf(city + "road p s takes 3;");
        Check.fine(x, "the nearer ROAD", x.way(0, 3), 3);
    }

    /** Terms ==== 2: by one ROAD, from which it is nearer by just what that ROAD TAKES. */
    private static void promise29NearerByJustWhatTheRoadTakes() {
        ExtraCaste x = Check.cityOf("corner p;corner q;corner r;road p r takes 5;road p q takes 2;road q r takes 2;");
        Check.fine(x, "not the ROAD there, which TAKES more", x.way(0, 2), 1);
        x = Check.cityOf("corner p;corner q;corner r;road q p takes 1;road q r takes 1;");
        Check.fine(x, "from the middle", x.way(1, 2), 2);
        Check.fine(x, "from the middle", x.way(1, 0), 0);
        Check.fine(x, "over the middle", x.way(2, 0), 1);
        x = Check.cityOf("corner p;corner q;corner r;road p q takes 9;road p q takes 2;road q r takes 1;road p r takes 4;");
        Check.fine(x, "the shortest of several ROADS", x.way(0, 2), 1);
    }

    /** Promise 29: 1; 7: one and itself; 6. */
    private static void promise29OneAndItselfAheadOfNone() {
        Edge.refused("one and itself", Edge::town, x -> x.way(0, 0), 7);
        Edge.refused("one and itself, without ROADS", Edge::town, x -> x.way(3, 3), 7);
        Edge.refused("no way", Edge::town, x -> x.way(0, 3), 6);
        Edge.refused("no way", Edge::town, x -> x.way(3, 0), 6);
        Edge.refused("no such one, twice", Edge::town, x -> x.way(4, 4), 1);
        Edge.refused("no such one, twice", Edge::town, x -> x.way(-1, -1), 1);
    }

    /** Promise 30: of several the first. */
    private static void promise30OfSeveralTheFirst() {
        ExtraCaste x = Check.cityOf(chain(9));
        Check.fine(x, "the fourth and the fifth are as near", x.centre(), 3);
        x = Check.cityOf("corner p;");
        Check.fine(x, "alone", x.centre(), 0);
        x = Check.cityOf("corner p;corner q;road p q takes 9;");
        Check.fine(x, "of two the first", x.centre(), 0);
        x = Check.cityOf("corner p;corner q;corner r;road p q takes 1;road q r takes 1;road p r takes 1;");
        Check.fine(x, "all as near", x.centre(), 0);
        x = Check.cityOf("corner p;corner q;corner r;road p r takes 9;road q r takes 9;");
        Check.fine(x, "the last", x.centre(), 2);
    }

    /** Promise 30: 6: none from which one comes to all, or no CORNERS. */
    private static void promise30NoneToAll() {
        Edge.refused("no CORNERS", ExtraCaste::new, ExtraCaste::centre, 6);
        Edge.refused("one apart", Edge::town, ExtraCaste::centre, 6);
        Edge.refused("two apart", () -> Check.cityOf("corner p;corner q;"), ExtraCaste::centre, 6);
        Edge.refused("the last of eight apart",
            () -> Check.cityOf(chain(1).replace("road cg ch takes 1;", "")), ExtraCaste::centre, 6);
        Edge.refused("the first of eight apart",
            () -> Check.cityOf(chain(1).replace("road ca cb takes 1;", "")), ExtraCaste::centre, 6);
    }

    /** Terms ==== 3: CUT, from none, where there is no way, to all twelve. */
    private static void promise31NoneToAll() {
        ExtraCaste x = Check.cityOf("corner p;corner q;corner r;" + Edge.many("road p q takes 1;", 12));
        Check.fine(x, "all twelve", x.cut(0, 1), 12);
        Check.fine(x, "no way", x.cut(0, 2), 0);
        Check.fine(x, "no way", x.cut(2, 1), 0);
        x = Check.cityOf("corner p;corner q;");
        Check.fine(x, "no ROADS", x.cut(0, 1), 0);
        x = Check.cityOf(chain(3));
        Check.fine(x, "one way", x.cut(0, 7), 1);
        Check.fine(x, "one way", x.cut(7, 0), 1);
        x = Check.cityOf(chain(3) + "road ca ch takes 9;");
        Check.fine(x, "a ring", x.cut(0, 7), 2);
        Check.fine(x, "a ring", x.cut(2, 5), 2);
        // Six ways of two ROADS each: both ends must lose six.
        StringBuilder b = new StringBuilder(EIGHT);
        for (char c = 'c'; c <= 'h'; c++) {
            b.append("road ca c").append(c).append(" takes 1;road c").append(c).append(" cb takes 1;");
        }
        x = Check.cityOf(b.toString());
        Check.fine(x, "six ways", x.cut(0, 1), 6);
        Check.fine(x, "two ROADS at one", x.cut(0, 5), 2);
        Check.fine(x, "two ROADS at either", x.cut(2, 7), 2);
    }

    /** Promise 31: 1; 7: one and itself. */
    private static void promise31OneAndItself() {
        Edge.refused("one and itself", Edge::town, x -> x.cut(0, 0), 7);
        Edge.refused("the last and itself", Edge::town, x -> x.cut(3, 3), 7);
        Edge.refused("no such one, twice", Edge::town, x -> x.cut(4, 4), 1);
        Edge.taken("no ROADS", Edge::town, x -> x.cut(0, 3), 0);
        Edge.refused("no CORNERS", ExtraCaste::new, x -> x.cut(0, 0), 1);
    }
}
