import java.util.ArrayList;
import java.util.List;

/** A call with another STATUS than 0 gives NONE, or false, and changes nothing else. */
public final class RefusalTest {
    private static final String CITY = "wage 3;corner p;corner q;corner r;corner s;road p q takes 2;road q r takes 1;"
        + "extra a at p;extra b at q;extra c at r;extra d at p;extra e at p;extra f at p;extra g at p;"
        + "happening t at q hour 1 great 1;happening u at r hour 600 great 1;happening v at s hour 9 great 1;"
        + "happening w at p hour 9 great 1;happening x at p hour 9 great 1;happening y at p hour 9 great 1;"
        + "happening z at p hour 9 great 1;happening aa at p hour 9 great 1;watcher bb at q fears 7;roster a u;";
    private static ExtraCaste x;

    public static void main(String[] args) {
        x = Check.cityOf(CITY);
        Check.refused(x, "no weeks", x.live(0), 6);
        Check.refused(x, "no weeks", x.mean(0, 1), 6);
        Check.refused(x, "no live", x.lived(0), 6);
        Check.refused(x, "no mark", x.undo(), 6);
        Check.weeks(x, "hour 3;");
        x.live(0);
        x.mark();
        x.mark();
        x.mark();
        x.tray(0, 0, 3);
        x.write(0, 1, 120);
        x.tray(1, 1, 60);
        x.write(1, 2, 120);
        x.falls(3);
        x.feed(0x77616765, 0x20343b7a, 1, 2, 3);
        refuseOnTrays();
        refuseNumbers();
        refuseWhatCannotBe();
        refuseAhead();
        Check.due("the tape stays", x.feed(0, 0, 0, 0, 0), 40);
        refuseTexts();
        Check.end();
    }

    private static List<Long> all() {
        List<Long> all = new ArrayList<>();
        for (int what = 0; what < 14; what++) {
            all.add((long) x.told(what));
            all.add((long) x.lived(what));
        }
        for (int i = 0; i < 8; i++) {
            for (int what = 0; what < 5; what++) {
                all.add((long) x.extra(i, what));
                all.add((long) x.happening(i, what));
                all.add((long) x.watcher(i, what));
            }
        }
        for (int tray = 0; tray < 4; tray++) {
            for (int place = 0; place < 60; place++) {
                all.add(x.read(tray, place));
                all.add((long) x.status());
            }
        }
        all.add(x.top());
        all.add(x.bottom());
        all.add((long) x.fault(0));
        all.add((long) x.fault(1));
        return all;
    }

    private static List<Long> before;

    private static void is(String call, long got, int status) {
        Check.refused(x, call, got, status);
        settle(call);
    }

    private static void is(String call, boolean got, int status) {
        Check.refused(x, call, got, status);
        settle(call);
    }

    private static void settle(String call) {
        List<Long> now = all();
        Check.due(call + " changes nothing", before == null || before.equals(now), true);
        before = now;
    }

    private static void refuseOnTrays() {
        before = all();
        is("tray", x.tray(0, 0, 61), 1);
        is("write", x.write(4, 0, 9), 1);
        is("write", x.write(2, 0, 9), 2);
        is("write", x.write(0, 3, 9), 3);
        is("read", x.read(0, 3), 3);
        is("pour", x.pour(0, -1, 0, 0, 1), 1);
        is("pour", x.pour(0, 0, 2, 0, 1), 2);
        is("pour", x.pour(0, 0, 1, 0, 9), 8);
        is("pour", x.pour(0, 1, 0, 0, 3), 3);
        is("explained", x.explained(0), 3);
        is("explained", x.explained(1), 5);
        is("sure", x.sure(2), 2);
        is("laws", x.laws(0, 1), 5);
        is("lawFirst", x.lawFirst(0, 2), 3);
        is("copyStanding", x.copyStanding(0), 3);
        is("copyStanding", x.copyStanding(3), 2);
        is("copyStanding", x.copyStanding(4), 1);
    }

    private static void refuseNumbers() {
        before = all();
        is("hour", x.hour(0), 1);
        is("order", x.order(7, 0, true), 1);
        is("put", x.put(1, 100), 1);
        is("raise", x.raise(1, 5), 1);
        is("plan", x.plan(0, 1000, 1), 1);
        is("bear", x.bear(4), 1);
        is("post", x.post(0, 4), 1);
        is("scare", x.scare(0, 8), 1);
        is("rule", x.rule(5, 100), 1);
        is("rule", x.rule(6, 0), 1);
        is("rule", x.rule(7, 17), 1);
        is("rule", x.rule(8, 1), 1);
        is("falls", x.falls(8), 1);
        is("live", x.live(10000), 1);
        is("mean", x.mean(9999, 2), 1);
        is("lived", x.lived(5), 1);
        is("told", x.told(14), 1);
        is("city", x.city(21), 1);
        is("weeks", x.weeks(21), 1);
        is("attends", x.attends(0, 256), 1);
        is("game", x.game(0, 4), 1);
        is("moveOf", x.moveOf(0, 0), 1);
    }

    private static void refuseWhatCannotBe() {
        before = all();
        is("order", x.order(0, 1, true), 7);
        is("order", x.order(0, 0, false), 7);
        is("put", x.put(0, 1), 7);
        is("raise", x.raise(0, 2), 7);
        is("plan", x.plan(0, 9, 1), 4);
        is("bear", x.bear(0), 4);
        is("post", x.post(0, 1), 7);
        is("mark", x.mark(), 4);
        is("way", x.way(0, 0), 7);
        is("way", x.way(0, 3), 6);
        is("far", x.far(0, 3), 6);
        is("road", x.road(0, 3), 6);
        is("cut", x.cut(0, 0), 7);
        is("centre", x.centre(), 6);
        is("goal", x.goal(1), 6);
        is("attends", x.attends(0, 1), 7);
        is("fewest", x.fewest(), 6);
        is("fewestSet", x.fewestSet(), 6);
    }

    private static void refuseAhead() {
        before = all();
        is("whereIn", x.whereIn(0, 301), 1);
        is("standingIn", x.standingIn(0, 301), 1);
        is("wagesIn", x.wagesIn(0, 301), 1);
        is("warnedIn", x.warnedIn(0, 301), 1);
        is("overIn", x.overIn(1), 6);
        is("becomes", x.becomes(1), 6);
        x.overIn(4);
        x.becomes(4);
        x.whereIn(0, 300);
        x.best(0);
        x.game(0, 3);
        settle("what only looks");
    }

    private static void refuseTexts() {
        Check.city(x, "corner");
        Check.due("a fault", x.status(), 9);
        before = all();
        is("city with the same fault", Check.city(x, "corner"), 9);
        is("weeks with the same fault", Check.weeks(x, "hour 1"), 9);
        Check.fine(x, "weeks are as they were", x.live(0), 1);
        Check.due("weeks are as they were", x.lived(1), 3);
        Check.fine(x, "marks are as they were", x.undo(), 2);
    }
}
