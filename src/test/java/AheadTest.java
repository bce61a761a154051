/** Promises 32 to 38: goal(), whereIn(), standingIn(), overIn(), becomes(), wagesIn(), warnedIn(). */
public final class AheadTest {
    private static final String CITY = "wage 2;corner p;corner q;corner r;road p q takes 1;road q r takes 3;"
        + "extra a at p;extra b at r;extra c at p;happening x at q hour 2 great 2;happening y at r hour 5 great 1;"
        + "happening z at q hour 500 great 1;watcher w at q fears 3;watcher v at p fears 1;roster a x z;roster b y x;";

    public static void main(String[] args) {
        goals();
        looksAhead();
        looksAheadFromLater();
        refuses();
        Check.end();
    }

    private static void goals() {
        ExtraCaste x = Check.cityOf(CITY);
        Check.fine(x, "goal", x.goal(0), 0);
        Check.fine(x, "goal", x.goal(1), 0);
        Check.refused(x, "no goal", x.goal(2), 6);
        x.put(0, 3);
        Check.fine(x, "of one HOUR the first", x.goal(1), 0);
        x.put(0, 1);
        Check.fine(x, "the sooner", x.goal(1), 1);
        x.hour(99);
        Check.refused(x, "all over", x.goal(1), 6);
        Check.fine(x, "what is to come", x.goal(0), 2);
        Check.refused(x, "extra 3", x.goal(3), 1);
        Check.refused(x, "extra -1", x.goal(-1), 1);
    }

    private static void looksAhead() {
        ExtraCaste x = Check.cityOf(CITY);
        int[] a = {0, 1, 1, 1, 1, 1, 1};
        int[] b = {2, 11, 11, 1, 12, 12, 2};
        int[] atQ = {0, 1, 1, 3, 1, 1, 1};
        int[] wagesOfB = {0, 0, 0, 4, 4, 4, 6};
        for (int hours = 0; hours < a.length; hours++) {
            Check.fine(x, "a in " + hours, x.whereIn(0, hours), a[hours]);
            Check.fine(x, "b in " + hours, x.whereIn(1, hours), b[hours]);
            Check.fine(x, "q in " + hours, x.standingIn(1, hours), atQ[hours]);
            Check.fine(x, "wages in " + hours, x.wagesIn(1, hours), wagesOfB[hours]);
            Check.fine(x, "warned in " + hours, x.warnedIn(1, hours), hours);
        }
        Check.fine(x, "over", x.overIn(0), 3);
        Check.fine(x, "happened", x.becomes(0), 1);
        Check.fine(x, "over", x.overIn(1), 6);
        Check.refused(x, "not in 300", x.overIn(2), 6);
        Check.refused(x, "not in 300", x.becomes(2), 6);
        Check.fine(x, "in 300", x.whereIn(1, 300), 2);
        Check.fine(x, "warned in 300", x.warnedIn(1, 300), 300);
        Check.fine(x, "never warned", x.warnedIn(0, 300), 0);
        Check.fine(x, "none of the last look", x.standingIn(1, 3), 3);
        x.whereIn(0, 0);
        Check.fine(x, "none of the last look", x.wagesIn(1, 3), 4);
        x.whereIn(0, 0);
        Check.fine(x, "none of the last look", x.becomes(0), 1);
        Check.due("all stays", x.told(8), 0);
        Check.due("all stays", x.told(13), 0);
        Check.due("all stays", x.told(9), 7);
        Check.due("all stays", x.watcher(1, 2), 0);
    }

    private static void looksAheadFromLater() {
        ExtraCaste x = Check.cityOf(CITY);
        x.hour(7);
        Check.fine(x, "over now", x.overIn(0), 0);
        Check.fine(x, "happened", x.becomes(0), 1);
        Check.fine(x, "had", x.wagesIn(1, 0), 6);
        Check.fine(x, "warned", x.warnedIn(1, 3), 10);
        for (int i = 0; i < 19; i++) {
            x.hour(10);
        }
        Check.refused(x, "in 304", x.overIn(2), 6);
        x.hour(3);
        Check.refused(x, "in 301", x.overIn(2), 6);
        Check.refused(x, "in 301", x.becomes(2), 6);
        x.hour(1);
        Check.fine(x, "in 300", x.overIn(2), 300);
        Check.fine(x, "in 300", x.becomes(2), 1);
        x.raise(2, 2);
        Check.fine(x, "fails", x.becomes(2), 2);
    }

    private static void refuses() {
        ExtraCaste x = Check.cityOf(CITY);
        Check.refused(x, "where", x.whereIn(3, 0), 1);
        Check.refused(x, "where", x.whereIn(-1, 0), 1);
        Check.refused(x, "where", x.whereIn(0, -1), 1);
        Check.refused(x, "where", x.whereIn(0, 301), 1);
        Check.refused(x, "standing", x.standingIn(3, 0), 1);
        Check.refused(x, "standing", x.standingIn(-1, 0), 1);
        Check.refused(x, "standing", x.standingIn(0, -1), 1);
        Check.refused(x, "standing", x.standingIn(0, 301), 1);
        Check.refused(x, "over", x.overIn(3), 1);
        Check.refused(x, "over", x.overIn(-1), 1);
        Check.refused(x, "becomes", x.becomes(3), 1);
        Check.refused(x, "becomes", x.becomes(-1), 1);
        Check.refused(x, "wages", x.wagesIn(3, 0), 1);
        Check.refused(x, "wages", x.wagesIn(-1, 0), 1);
        Check.refused(x, "wages", x.wagesIn(0, -1), 1);
        Check.refused(x, "wages", x.wagesIn(0, 301), 1);
        Check.refused(x, "warned", x.warnedIn(2, 0), 1);
        Check.refused(x, "warned", x.warnedIn(-1, 0), 1);
        Check.refused(x, "warned", x.warnedIn(0, -1), 1);
        Check.refused(x, "warned", x.warnedIn(0, 301), 1);
    }
}
