/** Promises 48 to 53: guard(), guardLeft(), game(), moveOf(), falls(), copyStanding(). */
public final class RulerTest {
    private static final String CITY = "corner p;corner q;corner r;corner s;road p q takes 9;road q r takes 1;"
        + "extra e at q;extra f at q;happening a at p hour 9 great 1;happening b at q hour 9 great 3;"
        + "happening c at r hour 0 great 4;happening d at r hour 9 great 2;";

    public static void main(String[] args) {
        guards();
        plays();
        refusesGames();
        falls();
        copies();
        Check.end();
    }

    private static void guards() {
        ExtraCaste x = Check.cityOf(CITY);
        Check.fine(x, "r has the greatest", x.guard(), 2);
        Check.fine(x, "q's is left", x.guardLeft(), 3);
        x.hour(1);
        Check.fine(x, "c is over", x.guard(), 1);
        Check.fine(x, "d is left", x.guardLeft(), 2);
        x.hour(9);
        Check.fine(x, "nothing to come: the first", x.guard(), 0);
        Check.fine(x, "0", x.guardLeft(), 0);
        x = Check.cityOf("corner p;corner q;happening a at p hour 1 great 2;happening b at q hour 1 great 2;");
        Check.fine(x, "of several the first", x.guard(), 0);
        x = new ExtraCaste();
        Check.refused(x, "no corners", x.guard(), 6);
        Check.refused(x, "no corners", x.guardLeft(), 6);
    }

    private static void plays() {
        ExtraCaste x = Check.cityOf(CITY);
        Check.fine(x, "no turns", x.game(0, 0), 0);
        // From p to q: c of r, 4; staying: 4, too.
        Check.fine(x, "one turn from p", x.game(0, 1), 4);
        Check.fine(x, "staying is as good, and less", x.moveOf(0, 1), 0);
        // From q to r: b alone counts 3.
        Check.fine(x, "one turn from q", x.game(1, 1), 3);
        Check.fine(x, "to r", x.moveOf(1, 1), 2);
        Check.fine(x, "stays at r", x.moveOf(2, 1), 2);
        Check.fine(x, "s has no roads", x.moveOf(3, 1), 3);
        Check.fine(x, "s", x.game(3, 3), 9);
        // From r: b 3; then r still against c: a 1.
        Check.fine(x, "two turns from r", x.game(2, 2), 4);
        // From p to q: c 4; then at q still against b: d 2. Staying at p: b 3, then c 4, as r is too far.
        Check.fine(x, "two turns from p", x.game(0, 2), 6);
        Check.fine(x, "to q", x.moveOf(0, 2), 1);
        x = Check.cityOf("corner p;corner q;road p q takes 1;happening h at q hour 1 great 2;");
        Check.fine(x, "to q", x.game(0, 1), 0);
        Check.fine(x, "to q", x.moveOf(0, 1), 1);
        Check.fine(x, "to q and stays", x.game(0, 3), 0);
        x = Check.cityOf("corner p;corner q;happening h at q hour 1 great 2;happening i at q hour 1 great 2;");
        Check.fine(x, "each once", x.game(0, 3), 4);
        Check.fine(x, "one a turn", x.game(0, 1), 2);
        x = Check.cityOf("corner p;");
        Check.fine(x, "nothing to come", x.game(0, 3), 0);
    }

    private static void refusesGames() {
        ExtraCaste x = Check.cityOf(CITY);
        Check.refused(x, "corner 4", x.game(4, 1), 1);
        Check.refused(x, "corner -1", x.game(-1, 1), 1);
        Check.refused(x, "turns -1", x.game(0, -1), 1);
        Check.refused(x, "turns 4", x.game(0, 4), 1);
        Check.refused(x, "corner 4", x.moveOf(4, 1), 1);
        Check.refused(x, "corner -1", x.moveOf(-1, 1), 1);
        Check.refused(x, "turns 0", x.moveOf(0, 0), 1);
        Check.refused(x, "turns 4", x.moveOf(0, 4), 1);
    }

    private static void falls() {
        ExtraCaste x = Check.cityOf("odds 4;" + CITY);
        Check.fraction(x, "falls 0", x.falls(0), 1, 1);
        Check.fraction(x, "falls 1", x.falls(1), 7, 16);
        Check.fraction(x, "falls 2", x.falls(2), 1, 16);
        Check.fraction(x, "falls 3", x.falls(3), 0, 1);
        Check.fraction(x, "falls 7", x.falls(7), 0, 1);
        Check.refused(x, "falls 8", x.falls(8), 1);
        Check.refused(x, "falls -1", x.falls(-1), 1);
        Check.due("stays", x.bottom(), 1);
        x.order(0, 0, true);
        x.hour(1);
        Check.fraction(x, "one is on a ROAD", x.falls(1), 1, 4);
        x.rule(7, 16);
        Check.fraction(x, "for sure", x.falls(1), 1, 1);
        x.rule(7, 0);
        Check.fraction(x, "never", x.falls(1), 0, 1);
        Check.fraction(x, "none or more", x.falls(0), 1, 1);
        x = Check.cityOf("odds 1;corner p;extra a at p;extra b at p;extra c at p;extra d at p;extra e at p;extra f at p;"
            + "extra g at p;");
        Check.fraction(x, "all seven", x.falls(7), 1, 268435456);
        Check.fraction(x, "six", x.falls(6), 53, 134217728);
    }

    private static void copies() {
        ExtraCaste x = Check.cityOf(CITY);
        Check.refused(x, "tray 4", x.copyStanding(4), 1);
        Check.refused(x, "tray -1", x.copyStanding(-1), 1);
        Check.refused(x, "missing", x.copyStanding(0), 2);
        x.tray(0, 0, 3);
        Check.refused(x, "too few", x.copyStanding(0), 3);
        x.tray(0, 0, 5);
        x.write(0, 0, 7);
        x.write(0, 4, 9);
        x.order(0, 0, true);
        x.bear(3);
        x.hour(1);
        Check.fine(x, "copy", x.copyStanding(0), 4);
        int[] due = {0, 1, 0, 1, 9};
        for (int i = 0; i < due.length; i++) {
            Check.fine(x, "place " + i, x.read(0, i), due[i]);
        }
    }
}
