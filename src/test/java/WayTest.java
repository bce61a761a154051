/** Promises 28 to 31: far(), way(), centre(), cut(). */
public final class WayTest {
    private static final String CITY = "corner p;corner q;corner r;corner s;corner t;"
        + "road p q takes 2;road q r takes 2;road p s takes 1;road s r takes 3;road p r takes 5;";

    public static void main(String[] args) {
        far();
        way();
        centre();
        cut();
        Check.end();
    }

    private static void far() {
        ExtraCaste x = Check.cityOf(CITY);
        Check.fine(x, "p r", x.far(0, 2), 4);
        Check.fine(x, "r p", x.far(2, 0), 4);
        Check.fine(x, "q s", x.far(1, 3), 3);
        Check.fine(x, "itself", x.far(4, 4), 0);
        Check.refused(x, "no way", x.far(0, 4), 6);
        Check.refused(x, "corner 5", x.far(0, 5), 1);
        Check.refused(x, "corner -1", x.far(-1, 0), 1);
    }

    private static void way() {
        ExtraCaste x = Check.cityOf(CITY);
        Check.fine(x, "of two as short the first", x.way(0, 2), 1);
        Check.fine(x, "of two as short the first", x.way(2, 0), 1);
        Check.fine(x, "over p", x.way(1, 3), 0);
        Check.fine(x, "at once", x.way(0, 3), 3);
        Check.refused(x, "no way", x.way(0, 4), 6);
        Check.refused(x, "itself", x.way(4, 4), 7);
        Check.refused(x, "corner 5", x.way(5, 0), 1);
        Check.refused(x, "corner -1", x.way(0, -1), 1);
        x = Check.cityOf("corner p;corner q;corner r;road p q takes 9;road p q takes 2;road q p takes 4;road q r takes 1;");
        Check.fine(x, "the shortest counts", x.far(0, 2), 3);
        Check.fine(x, "way", x.way(0, 2), 1);
    }

    private static void centre() {
        ExtraCaste x = Check.cityOf(CITY);
        Check.refused(x, "none to all", x.centre(), 6);
        x = Check.cityOf("corner p;corner q;corner r;corner s;road p q takes 1;road q r takes 1;road r s takes 1;");
        Check.fine(x, "of several the first", x.centre(), 1);
        x = Check.cityOf("corner p;corner q;corner r;road p r takes 1;road q r takes 9;");
        Check.fine(x, "the last", x.centre(), 2);
        x = Check.cityOf("corner p;corner q;");
        Check.refused(x, "two without a way", x.centre(), 6);
        x = Check.cityOf("corner p;");
        Check.fine(x, "alone", x.centre(), 0);
        x = new ExtraCaste();
        Check.refused(x, "no corners", x.centre(), 6);
    }

    private static void cut() {
        ExtraCaste x = Check.cityOf(CITY);
        Check.fine(x, "three ways", x.cut(0, 2), 3);
        Check.fine(x, "two ways", x.cut(1, 3), 2);
        Check.fine(x, "no way", x.cut(0, 4), 0);
        Check.refused(x, "itself", x.cut(1, 1), 7);
        Check.refused(x, "corner 5", x.cut(0, 5), 1);
        Check.refused(x, "corner -1", x.cut(-1, 0), 1);
        x = Check.cityOf("corner p;corner q;corner r;road p q takes 9;road p q takes 2;road q r takes 1;");
        Check.fine(x, "each of several ROADS", x.cut(0, 1), 2);
        Check.fine(x, "at the narrow end", x.cut(0, 2), 1);
    }
}
