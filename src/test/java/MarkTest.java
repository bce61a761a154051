/** Promises 57, 58: mark(), undo(). */
public final class MarkTest {
    public static void main(String[] args) {
        ExtraCaste x = Check.cityOf("wage 3;corner p;corner q;road p q takes 2;extra e at p;"
            + "happening h at q hour 1 great 1;watcher w at q fears 1;roster e h;");
        Check.refused(x, "no mark", x.undo(), 6);
        Check.weeks(x, "hour 5;");
        Check.fine(x, "mark", x.mark(), 1);
        changeAll(x);
        Check.fine(x, "mark", x.mark(), 2);
        Check.city(x, "corner z;corner y;extra f at y;");
        Check.due("no weeks", x.live(0), -1);
        Check.fine(x, "mark", x.mark(), 3);
        Check.refused(x, "a fourth", x.mark(), 4);
        x.hour(9);
        Check.fine(x, "undo", x.undo(), 2);
        Check.due("the third's", x.told(8), 0);
        Check.due("the third's", x.told(2), 1);
        Check.fine(x, "undo", x.undo(), 1);
        Check.due("the second's", x.told(8), 2);
        Check.due("the second's", x.told(3), 2);
        Check.due("the second's", x.live(0), 2);
        Check.due("any: both stand at q", x.lived(3), 2);
        x.tray(0, 0, 1);
        Check.fine(x, "undo", x.undo(), 0);
        asItWas(x);
        Check.refused(x, "no mark", x.undo(), 6);
        asItWas(x);
        Check.fine(x, "TRAYS stay", x.read(0, 0), 0);
        Check.due("what was lived stays", x.lived(3), 2);
        Check.fine(x, "the first's weeks", x.live(0), 1);
        Check.due("hour", x.told(8), 5);
        Check.fine(x, "names, too", Check.weeks(x, "order e h;when warned w<1;end;"), 2);
        Check.end();
    }

    private static void changeAll(ExtraCaste x) {
        x.hour(2);
        x.rule(5, 9);
        x.rule(6, 9);
        x.rule(7, 9);
        x.plan(0, 9, 2);
        x.bear(1);
        x.post(0, 0);
        x.scare(0, 5);
        x.order(0, 0, false);
        x.put(1, 4);
        x.raise(1, 4);
        Check.weeks(x, "any;any;");
        x.post(0, 1);
    }

    private static void asItWas(ExtraCaste x) {
        int[] told = {2, 1, 1, 1, 1, 3, 2, 1, 0, 1, 0, 0, 0, 0};
        for (int what = 0; what < told.length; what++) {
            Check.due("told " + what, x.told(what), told[what]);
        }
        int[] extra = {0, 0, 1, 0, 0};
        int[] happening = {1, 1, 1, 0, 0};
        int[] watcher = {1, 1, 0};
        for (int what = 0; what < 5; what++) {
            Check.due("extra " + what, x.extra(0, what), extra[what]);
            Check.due("happening " + what, x.happening(0, what), happening[what]);
        }
        for (int what = 0; what < 3; what++) {
            Check.due("watcher " + what, x.watcher(0, what), watcher[what]);
        }
        Check.due("road", x.road(0, 1), 2);
        Check.due("far", x.far(0, 1), 2);
    }
}
