/** Boundary cases of GUARD, GAME, FALLS (Terms ==== 3) and of promises 48 to 53: guard() to copyStanding(). */
public final class EdgeRulersTest {
    private static final String PQR = "corner p;corner q;corner r;";
    private static final int MOST_OF_ALL = 99;

    public static void main(String[] args) {
        promises48And49NoCorners();
        promises48And49NothingToCome();
        promises48And49OfSeveralTheFirst();
        promise50NoTurns();
        promise50OneToThreeTurns();
        promise50WithoutRoadsOrHappenings();
        promise50WhateverTheRoadTakes();
        promise51OfAllAsGoodTheLeast();
        promises50And51AsAllIsNow();
        promises50And51FromEachCornerByEachSet();
        promise52NoneToAll();
        promise52OddsNoneToSixteen();
        promise52WhoStandsAlone();
        promise53AsManyAsCorners();
        Check.end();
    }

    private static void guard(ExtraCaste x, int corner, int left) {
        Check.fine(x, "guard", x.guard(), corner);
        Check.fine(x, "guardLeft", x.guardLeft(), left);
    }

    /** Promises 48, 49: 6: no CORNERS. */
    private static void promises48And49NoCorners() {
        Edge.refused("no CORNERS", ExtraCaste::new, ExtraCaste::guard, 6);
        Edge.refused("no CORNERS", ExtraCaste::new, ExtraCaste::guardLeft, 6);
        guard(Check.cityOf("corner p;"), 0, 0);
    }

    /** Terms ==== 3: 0 if there is none. */
    private static void promises48And49NothingToCome() {
        guard(Check.cityOf(PQR), 0, 0);
        guard(Check.cityOf("corner p;happening h at p hour 1 great 4;"), 0, 0);
        guard(Check.cityOf(PQR + "happening h at r hour 1 great 1;"), 2, 0);
        ExtraCaste x = Check.cityOf(PQR + "happening h at r hour 0 great 4;");
        guard(x, 2, 0);
        x.hour(1);
        guard(x, 0, 0);
        // What was to be ahead of now is TO COME.
        x.plan(1, 0, 2);
        guard(x, 1, 0);
    }

    /** Terms ==== 3: of several the first; each HAPPENING by itself, not together. */
    private static void promises48And49OfSeveralTheFirst() {
        guard(Check.cityOf(PQR + "happening h at q hour 1 great 4;happening i at r hour 1 great 4;"), 0, 4);
        guard(Check.cityOf(PQR + "happening h at q hour 1 great 3;happening i at r hour 1 great 4;"), 2, 3);
        guard(Check.cityOf(PQR + "happening h at q hour 1 great 4;happening i at r hour 1 great 3;"), 1, 3);
        guard(Check.cityOf(PQR + "happening h at q hour 1 great 2;happening i at q hour 1 great 2;happening j at r hour 1 great 3;"),
            2, 2);
        ExtraCaste x = Check.cityOf(Edge.many("corner c#;", 8) + "happening h at ch hour 1 great 1;");
        guard(x, 7, 0);
        x.plan(0, 0, 1);
        guard(x, 0, 1);
    }

    /** Terms ==== 3: n turns (0 to 3): of none nothing comes. */
    private static void promise50NoTurns() {
        ExtraCaste x = Check.cityOf(PQR + Edge.many("happening h# at q hour 1 great 4;", 8));
        Check.fine(x, "no turns", x.game(0, 0), 0);
        Check.refused(x, "P51: no first move of none", x.moveOf(0, 0), 1);
        Check.fine(x, "P51: of one", x.moveOf(0, 1), 0);
    }

    /** Terms ==== 3: in each turn one HAPPENING, or none, each once, at most three in all. */
    private static void promise50OneToThreeTurns() {
        ExtraCaste x = Check.cityOf(PQR + Edge.many("happening h# at q hour 1 great 4;", 8));
        for (int turns = 0; turns <= 3; turns++) {
            Check.fine(x, turns + " turns, out of the way", x.game(0, turns), 4 * turns);
            Check.fine(x, turns + " turns, at its CORNER", x.game(1, turns), 0);
        }
        Check.refused(x, "4 turns", x.game(0, 4), 1);
        Check.refused(x, "-1 turns", x.game(0, -1), 1);
        x = Check.cityOf(PQR + "happening h at q hour 1 great 4;happening i at q hour 1 great 1;");
        int[] due = {0, 4, 5, 5};
        for (int turns = 0; turns <= 3; turns++) {
            Check.fine(x, turns + " turns, each once", x.game(0, turns), due[turns]);
        }
    }

    /** Terms ==== 3: without ROADS the ruler stays, without HAPPENINGS the plotters do none. */
    private static void promise50WithoutRoadsOrHappenings() {
        ExtraCaste x = Check.cityOf("corner p;");
        Check.fine(x, "nothing", x.game(0, 3), 0);
        Check.fine(x, "stays", x.moveOf(0, 3), 0);
        x.plan(0, 0, 4);
        Check.fine(x, "at his own CORNER", x.game(0, 3), 0);
        x = Check.cityOf(PQR + "happening h at p hour 0 great 3;");
        Check.fine(x, "elsewhere", x.game(2, 1), 3);
        Check.fine(x, "stays", x.moveOf(2, 3), 2);
        x.hour(1);
        Check.fine(x, "what is over is not done", x.game(2, 3), 0);
        Edge.refused("no CORNERS", ExtraCaste::new, y -> y.game(0, 0), 1);
        Edge.refused("no CORNERS", ExtraCaste::new, y -> y.moveOf(0, 1), 1);
    }

    /** Terms ==== 3: by one ROAD, whatever it TAKES; not by two in one turn. */
    private static void promise50WhateverTheRoadTakes() {
        String city = PQR + "road p q takes 9;road q r takes 1;happening h at r hour 1 great 2;";
        ExtraCaste x = Check.cityOf(city);
        Check.fine(x, "two ROADS away", x.game(0, 1), 2);
        Check.fine(x, "one ROAD away", x.game(1, 1), 0);
        Check.fine(x, "goes there", x.moveOf(1, 1), 2);
        x = Check.cityOf(city.replace("takes 1", "takes 9").replace("at r", "at q"));
        Check.fine(x, "9 HOURS away", x.game(0, 1), 0);
        Check.fine(x, "goes there", x.moveOf(0, 1), 1);
        // The plotters wait for nothing: what is not done in the first turn may be in the second.
        x = Check.cityOf("corner p;corner q;road p q takes 1;happening h at p hour 1 great 1;happening i at q hour 1 great 4;");
        Check.fine(x, "from p, one turn", x.game(0, 1), 1);
        Check.fine(x, "from p, two turns", x.game(0, 2), 1);
    }

    /** Terms ==== 3: MOVE: of all that are as good the least (his own one, too). */
    private static void promise51OfAllAsGoodTheLeast() {
        String all = "road p q takes 1;road q r takes 1;road p r takes 1;";
        for (int corner = 0; corner < 3; corner++) {
            ExtraCaste x = Check.cityOf(PQR + all);
            Check.fine(x, "all as good", x.moveOf(corner, 1), 0);
            Check.fine(x, "all as good", x.moveOf(corner, 3), 0);
            x = Check.cityOf(PQR + all + "happening h at q hour 1 great 1;happening i at r hour 1 great 1;");
            Check.fine(x, "one is always left", x.moveOf(corner, 1), 0);
            x = Check.cityOf(PQR + all + "happening h at r hour 1 great 1;");
            Check.fine(x, "the last is best", x.moveOf(corner, 1), 2);
            x = Check.cityOf(PQR + all + "happening h at q hour 1 great 1;");
            Check.fine(x, "the middle is best", x.moveOf(corner, 1), 1);
        }
        ExtraCaste x = Check.cityOf(PQR + "road q r takes 1;");
        Check.fine(x, "not to where no ROAD goes", x.moveOf(1, 1), 1);
        Check.fine(x, "not to where no ROAD goes", x.moveOf(2, 1), 1);
        Check.fine(x, "his own one", x.moveOf(0, 1), 0);
    }

    /** Promises 50, 51: as all is now: what was asked ahead of it leaves no trace. */
    private static void promises50And51AsAllIsNow() {
        ExtraCaste x = Check.cityOf(PQR + "road p q takes 1;road p r takes 1;happening h at q hour 0 great 4;"
            + "happening i at r hour 9 great 3;");
        Check.fine(x, "to q", x.moveOf(0, 3), 1);
        Check.fine(x, "i is left", x.game(0, 1), 3);
        x.hour(1);
        Check.fine(x, "to r", x.moveOf(0, 3), 2);
        Check.fine(x, "nothing is left", x.game(0, 3), 0);
        x.plan(1, 9, 4);
        Check.fine(x, "to q again", x.moveOf(0, 1), 1);
        Check.fine(x, "i is left", x.game(0, 1), 3);
        x.raise(1, 4);
        Check.fine(x, "as good", x.moveOf(0, 2), 0);
        Check.city(x, PQR);
        Check.fine(x, "another CITY", x.game(0, 3), 0);
    }

    /** Terms ==== 3: by best play, from each CORNER of a row of eight, with all eight at different ones. */
    private static void promises50And51FromEachCornerByEachSet() {
        StringBuilder b = new StringBuilder(Edge.many("corner c#;", 8));
        for (char c = 'a'; c < 'h'; c++) {
            b.append("road c").append(c).append(" c").append((char) (c + 1)).append(" takes 9;");
        }
        int[] great = {1, 4, 2, 3, 1, 2, 4, 3};
        for (int h = 0; h < 8; h++) {
            b.append("happening h").append((char) ('a' + h)).append(" at c").append((char) ('a' + h)).append(" hour 9 great ")
                .append(great[h]).append(';');
        }
        ExtraCaste x = Check.cityOf(b.toString());
        for (int round = 0; round < 6; round++) {
            for (int corner = round; corner < 8; corner += 1 + round) {
                for (int turns = 1; turns <= 3; turns++) {
                    int due = Math.max(0, corner - 1);
                    while (plotters(great, due, turns, 0) != ruler(great, corner, turns, 0)) {
                        due++;
                    }
                    Check.fine(x, "MOVE of " + turns + " from " + corner, x.moveOf(corner, turns), due);
                }
                for (int turns = 0; turns <= 3; turns++) {
                    Check.fine(x, turns + " turns from " + corner, x.game(corner, turns), ruler(great, corner, turns, 0));
                }
            }
            for (int h = round % 2; h < 8; h += 2) {
                great[h] = 1 + (great[h] + round + h) % 4;
                x.raise(h, great[h]);
            }
        }
    }

    private static int ruler(int[] great, int corner, int turns, int done) {
        int least = turns == 0 ? 0 : MOST_OF_ALL;
        for (int to = Math.max(0, corner - 1); turns > 0 && to <= Math.min(7, corner + 1); to++) {
            least = Math.min(least, plotters(great, to, turns, done));
        }
        return least;
    }

    private static int plotters(int[] great, int corner, int turns, int done) {
        int most = ruler(great, corner, turns - 1, done);
        for (int h = 0; h < 8; h++) {
            if ((done >> h & 1) == 0) {
                most = Math.max(most, (h == corner ? 0 : great[h]) + ruler(great, corner, turns - 1, done | 1 << h));
            }
        }
        return most;
    }

    /** Promise 52: FALLS of k (0 to 7): 0 is sure, more than stand is 0 by 1, all seven is the least. */
    private static void promise52NoneToAll() {
        for (int many = 0; many <= 7; many++) {
            ExtraCaste x = Check.cityOf("odds 8;corner p;" + Edge.many("extra e# at p;", many));
            long all = 1L << many;
            Check.fraction(x, "0 or more of " + many, x.falls(0), 1, 1);
            for (int k = many + 1; k <= 7; k++) {
                Check.fraction(x, k + " of " + many, x.falls(k), 0, 1);
            }
            if (many > 0) {
                Check.fraction(x, "all of " + many, x.falls(many), 1, all);
                Check.fraction(x, "1 or more of " + many, x.falls(1), all - 1, all);
            }
            Check.refused(x, "8", x.falls(8), 1);
            Check.refused(x, "-1", x.falls(-1), 1);
            Check.due("the FRACTION stays", x.bottom(), many == 0 ? 1 : all);
        }
        ExtraCaste x = Check.cityOf("odds 15;corner p;" + Edge.many("extra e# at p;", 7));
        Check.fraction(x, "1 or more", x.falls(1), 268435455, 268435456);
        Check.fraction(x, "all", x.falls(7), 170859375, 268435456);
    }

    /** Terms ==== 3: by ODDS sixteenths: never by 0, for sure by 16. */
    private static void promise52OddsNoneToSixteen() {
        for (int odds = 0; odds <= 16; odds++) {
            ExtraCaste x = Check.cityOf("odds " + odds + ";corner p;extra e at p;");
            int common = odds == 0 ? 16 : Integer.lowestOneBit(odds);
            Check.fraction(x, "one by " + odds, x.falls(1), odds / common, 16 / common);
            x = Check.cityOf("odds " + odds + ";corner p;" + Edge.many("extra e# at p;", 7));
            if (odds == 0 || odds == 16) {
                for (int k = 1; k <= 7; k++) {
                    Check.fraction(x, k + " by " + odds, x.falls(k), odds / 16, 1);
                }
            }
            Check.fraction(x, "none or more by " + odds, x.falls(0), 1, 1);
        }
        ExtraCaste x = new ExtraCaste();
        Check.fraction(x, "nobody is 0 or more", x.falls(0), 1, 1);
        Check.fraction(x, "nobody is not 1", x.falls(1), 0, 1);
    }

    /** Terms ==== 3: each EXTRA who stands; who is on a ROAD does not fall. */
    private static void promise52WhoStandsAlone() {
        ExtraCaste x = Check.cityOf("odds 8;corner p;corner q;road p q takes 2;" + Edge.many("extra e# at p;", 7)
            + "happening h at q hour 9 great 1;" + Edge.many("roster e# h;", 6));
        Check.fraction(x, "seven stand", x.falls(7), 1, 128);
        x.hour(1);
        Check.fraction(x, "one stands", x.falls(1), 1, 2);
        Check.fraction(x, "two do not", x.falls(2), 0, 1);
        x.hour(1);
        Check.fraction(x, "seven stand again", x.falls(7), 1, 128);
    }

    /** Promise 53: as many numbers as CORNERS; 1, 2, 3; those behind stay. */
    private static void promise53AsManyAsCorners() {
        for (int corners = 0; corners <= 8; corners++) {
            String city = Edge.many("corner c#;", corners);
            for (int sort = 0; sort < 4; sort++) {
                int s = sort;
                int n = corners;
                Edge.taken("as many", () -> laid(city, s, n), x -> x.copyStanding(1), n);
                if (n > 0) {
                    Edge.refused("one too few", () -> laid(city, s, n - 1), x -> x.copyStanding(1), 3);
                }
            }
            Edge.refused("MISSING", () -> laid(city, 0, 9), x -> x.copyStanding(0), 2);
            Edge.refused("no such TRAY", () -> laid(city, 0, 9), x -> x.copyStanding(4), 1);
            Edge.refused("no such TRAY", () -> laid(city, 0, 9), x -> x.copyStanding(-1), 1);
        }
        ExtraCaste x = laid(Edge.many("corner c#;", 8) + Edge.many("extra e# at ch;", 7), 0, 9);
        x.write(1, 0, 5);
        x.write(1, 8, 6);
        Check.fine(x, "copy", x.copyStanding(1), 8);
        for (int i = 0; i < 9; i++) {
            Check.fine(x, "place " + i, x.read(1, i), i == 7 ? 7 : i == 8 ? 6 : 0);
        }
    }

    private static ExtraCaste laid(String city, int sort, int many) {
        ExtraCaste x = Check.cityOf(city);
        x.tray(1, sort, many);
        return x;
    }
}
