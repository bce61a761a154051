/** Promises 1 to 4: a new object, status(), top(), bottom(). */
public final class NewObjectTest {
    public static void main(String[] args) {
        ExtraCaste x = new ExtraCaste();
        Check.due("NONE", ExtraCaste.NONE, -1);
        Check.due("status()", x.status(), 0);
        Check.due("top()", x.top(), 0);
        Check.due("bottom()", x.bottom(), 1);
        int[] told = {0, 0, 0, 0, 0, 1, 2, 1, 0, 0, 0, 0, 0, 0};
        for (int what = 0; what < told.length; what++) {
            Check.fine(x, "told " + what, x.told(what), told[what]);
        }
        for (int tray = 0; tray < 4; tray++) {
            Check.refused(x, "read", x.read(tray, 0), 2);
        }
        Check.refused(x, "undo", x.undo(), 6);
        Check.refused(x, "live", x.live(0), 6);
        Check.refused(x, "lived", x.lived(0), 6);
        Check.refused(x, "mean", x.mean(0, 1), 6);
        Check.refused(x, "city(1)", x.city(1), 1);
        Check.due("fault(0)", x.fault(0), -1);
        Check.due("fault(1)", x.fault(1), -1);
        Check.due("fault(2)", x.fault(2), -1);
        Check.due("status() stays", x.status(), 1);
        x.top();
        x.bottom();
        x.feed(0, 0, 0, 0, 0);
        Check.due("status() stays", x.status(), 1);
        x.told(0);
        Check.due("status() is the latest's", x.status(), 0);
        Check.fraction(x, "falls(1)", x.falls(1), 0, 1);
        Check.fraction(x, "falls(0)", x.falls(0), 1, 1);
        Check.refused(x, "falls(8)", x.falls(8), 1);
        Check.due("top() stays", x.top(), 1);
        Check.end();
    }
}
