/** Promises 13 to 18: told(), extra(), happening(), watcher(), standing(), road(). */
public final class TellTest {
    private static final String CITY = "wage 3;corner p;corner q;corner r;corner s;road p q takes 1;road q r takes 3;"
        + "extra a at p;extra b at r;extra c at p;happening x at q hour 2 great 2;happening y at r hour 5 great 1;"
        + "happening z at s hour 3 great 1;watcher w at q fears 2;watcher v at s fears 1;roster a x;roster b x y;";

    public static void main(String[] args) {
        tellsAtFirst();
        tellsLater();
        refuses();
        Check.end();
    }

    private static void told(ExtraCaste x, int... values) {
        for (int what = 0; what < values.length; what++) {
            Check.fine(x, "told " + what, x.told(what), values[what]);
        }
    }

    private static void extra(ExtraCaste x, int extra, int... values) {
        for (int what = 0; what < values.length; what++) {
            Check.fine(x, "extra " + extra + " " + what, x.extra(extra, what), values[what]);
        }
    }

    private static void happening(ExtraCaste x, int happening, int... values) {
        for (int what = 0; what < values.length; what++) {
            Check.fine(x, "happening " + happening + " " + what, x.happening(happening, what), values[what]);
        }
    }

    private static void tellsAtFirst() {
        ExtraCaste x = Check.cityOf(CITY);
        told(x, 4, 2, 3, 3, 2, 3, 2, 1, 0, 7, 0, 0, 0, 0);
        extra(x, 0, 0, 0, 1, 0, 0);
        extra(x, 1, 2, 0, 3, 0, 0);
        extra(x, 2, 0, 0, 0, 0, 0);
        happening(x, 0, 1, 2, 2, 0, 0);
        happening(x, 1, 2, 5, 1, 0, 1);
        Check.fine(x, "watcher", x.watcher(0, 0), 1);
        Check.fine(x, "fears", x.watcher(0, 1), 2);
        Check.fine(x, "warned", x.watcher(0, 2), 0);
        Check.fine(x, "standing", x.standing(0), 5);
        Check.fine(x, "standing", x.standing(1), 0);
        Check.fine(x, "standing", x.standing(2), 2);
        Check.fine(x, "road", x.road(1, 2), 3);
        Check.fine(x, "road", x.road(2, 1), 3);
        Check.refused(x, "no road", x.road(0, 2), 6);
    }

    private static void tellsLater() {
        ExtraCaste x = Check.cityOf(CITY);
        // a comes to q at once; b is two HOURS short of q.
        Check.fine(x, "hour", x.hour(1), 0);
        extra(x, 0, 1, 0, 1, 0, 0);
        extra(x, 1, 11, 2, 3, 0, 0);
        told(x, 4, 2, 3, 3, 2, 3, 2, 1, 1, 7, 0, 0, 2, 0);
        Check.due("standing at q", x.standing(1), 1);
        Check.due("nobody at r", x.standing(2), 0);
        Check.fine(x, "hour", x.hour(1), 0);
        Check.due("one to go", x.extra(1, 1), 1);
        Check.due("on a road", x.told(12), 2);
        // b comes in HOUR 2; both have 3 times 2; the watcher of q sees two, z fails one HOUR later.
        Check.fine(x, "hour", x.hour(1), 1);
        extra(x, 0, 1, 0, 1, 6, 1);
        extra(x, 1, 1, 0, 3, 6, 1);
        extra(x, 2, 0, 0, 0, 0, 0);
        happening(x, 0, 1, 2, 2, 1, 2);
        Check.due("warned", x.watcher(0, 2), 1);
        told(x, 4, 2, 3, 3, 2, 3, 2, 1, 3, 6, 1, 0, 0, 12);
        Check.fine(x, "hour", x.hour(1), 0);
        told(x, 4, 2, 3, 3, 2, 3, 2, 1, 4, 2, 1, 4, 2, 12);
        happening(x, 2, 3, 3, 1, 2, 0);
        // b is on his way to r again from HOUR 3 on, and there in HOUR 5.
        Check.fine(x, "hour", x.hour(2), 1);
        extra(x, 1, 2, 0, 3, 9, 2);
        told(x, 4, 2, 3, 3, 2, 3, 2, 1, 6, 0, 3, 4, 0, 15);
        Check.due("warned once", x.watcher(0, 2), 1);
        Check.due("never warned", x.watcher(1, 2), 0);
    }

    private static void refuses() {
        ExtraCaste x = Check.cityOf(CITY);
        Check.refused(x, "told", x.told(-1), 1);
        Check.refused(x, "told", x.told(14), 1);
        Check.refused(x, "extra", x.extra(-1, 0), 1);
        Check.refused(x, "extra", x.extra(3, 0), 1);
        Check.refused(x, "extra", x.extra(0, -1), 1);
        Check.refused(x, "extra", x.extra(0, 5), 1);
        Check.refused(x, "happening", x.happening(-1, 0), 1);
        Check.refused(x, "happening", x.happening(3, 0), 1);
        Check.refused(x, "happening", x.happening(0, -1), 1);
        Check.refused(x, "happening", x.happening(0, 5), 1);
        Check.refused(x, "watcher", x.watcher(-1, 0), 1);
        Check.refused(x, "watcher", x.watcher(2, 0), 1);
        Check.refused(x, "watcher", x.watcher(0, -1), 1);
        Check.refused(x, "watcher", x.watcher(0, 3), 1);
        Check.refused(x, "standing", x.standing(-1), 1);
        Check.refused(x, "standing", x.standing(4), 1);
        Check.refused(x, "road", x.road(0, 0), 1);
        Check.refused(x, "road", x.road(0, 4), 1);
        Check.refused(x, "road", x.road(-1, 0), 1);
    }
}
