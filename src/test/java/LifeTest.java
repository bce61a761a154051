/** Promises 54 to 56: live(), lived(), mean(). */
public final class LifeTest {
    private static final String CITY = "wage 2;delay 3;corner p;corner q;road p q takes 3;extra e at p;extra f at q;"
        + "happening h at q hour 4 great 1;happening i at p hour 30 great 2;watcher w at q fears 7;watcher v at p fears 7;";

    public static void main(String[] args) {
        lives();
        tests();
        loopsAndStops();
        counts();
        draws();
        misses();
        means();
        refuses();
        Check.end();
    }

    private static ExtraCaste living(String weeks) {
        ExtraCaste x = Check.cityOf(CITY);
        Check.weeks(x, weeks);
        Check.due("weeks " + weeks, x.status(), 0);
        return x;
    }

    private static void lived(ExtraCaste x, int missed, int hours, int happened, int warned, int left) {
        int[] due = {missed, hours, happened, warned, left};
        for (int what = 0; what < due.length; what++) {
            Check.fine(x, "lived " + what, x.lived(what), due[what]);
        }
    }

    private static void lives() {
        ExtraCaste x = living("order e h;hour 2;order e h;put h 9;hour 48;order f i;");
        Check.fine(x, "live", x.live(0), 6);
        Check.due("hour", x.told(8), 50);
        Check.due("e came to the ROAD's end", x.extra(0, 0), 1);
        Check.due("no more on it", x.extra(0, 2), 0);
        Check.due("f's", x.extra(1, 2), 2);
        Check.due("put", x.happening(0, 1), 13);
        Check.due("wages", x.told(13), 4);
        lived(x, 0, 50, 1, 0, 0);
        Check.fine(x, "from there on", x.live(0), 6);
        Check.due("hour", x.told(8), 100);
        lived(x, 1, 50, 0, 0, 0);
        Check.city(x, "");
        lived(x, 1, 50, 0, 0, 0);
        Check.refused(x, "no weeks", x.live(0), 6);
        lived(x, 1, 50, 0, 0, 0);
        x = living("");
        Check.fine(x, "weeks of no steps", x.live(0), 0);
        lived(x, 0, 0, 0, 0, 0);
    }

    /** Whether a when lets its STEP through, ahead of HOURS and behind them. */
    private static void test(String test, boolean first, boolean later) {
        ExtraCaste x = living("when " + test + ";hour 48;end;");
        Check.due(test, x.live(0), first ? 2 : 1);
        Check.due(test, x.told(8), first ? 48 : 0);
        x = living("order e h;hour 5;any;when " + test + ";hour 48;end;");
        // The draw by 2 from seed 1: 14,472 by 8 is 1,809, which is odd: f, at q.
        Check.due(test + " later", x.live(1), later ? 5 : 4);
        Check.due(test + " later", x.told(8), later ? 53 : 5);
    }

    private static void tests() {
        test("is h 0", true, false);
        test("is h 1", false, true);
        test("is h 2", false, false);
        test("stands e p", true, false);
        test("stands e q", false, true);
        test("over h", false, true);
        test("over i", false, false);
        test("warned w<1", true, false);
        test("warned w=0", true, false);
        test("warned w=1", false, true);
        test("warned w>0", false, true);
        test("warned w>1", false, false);
        test("warned v<1", true, true);
        ExtraCaste x = living("order e h;hour 1;when stands e q;hour 9;end;when stands e p;hour 9;end;");
        Check.fine(x, "on a ROAD he stands nowhere", x.live(0), 4);
        x = living("hour 48;when is i 2;hour 1;end;");
        Check.fine(x, "it failed", x.live(0), 3);
    }

    private static void loopsAndStops() {
        ExtraCaste x = living("loop 3;hour 1;loop 2;hour 2;end;end;hour 9;");
        // One, and 3 times 4, and one.
        Check.fine(x, "loops", x.live(0), 14);
        Check.due("hour", x.told(8), 24);
        x = living("loop 99;hour 1;when over h;stop;hour 40;end;end;hour 48;");
        Check.fine(x, "stop", x.live(0), 12);
        Check.due("hour", x.told(8), 5);
        lived(x, 0, 5, 1, 0, 0);
        x = living("stop;hour 1;");
        Check.fine(x, "stop at once", x.live(0), 1);
        lived(x, 0, 0, 0, 0, 0);
        x = living("loop 99;end;loop 99;loop 99;end;end;hour 1;");
        Check.fine(x, "nothing within", x.live(0), 102);
        lived(x, 0, 1, 0, 0, 0);
    }

    private static void counts() {
        ExtraCaste x = living("loop 99;hour 1;hour 1;hour 1;end;hour 1;hour 1;");
        Check.fine(x, "300 in all", x.live(0), 300);
        lived(x, 0, 299, 1, 0, 0);
        x = living("loop 99;hour 1;hour 1;hour 1;end;hour 1;hour 1;stop;");
        Check.fine(x, "a STEP left", x.live(0), 300);
        lived(x, 0, 299, 1, 0, 1);
        Check.weeks(x, "hour 1;");
        Check.fine(x, "none left", x.live(0), 1);
        lived(x, 0, 1, 0, 0, 0);
        x = living("loop 99;hour 1;hour 1;hour 1;end;hour 1;stop;hour 1;");
        Check.fine(x, "stop is the last", x.live(0), 300);
        lived(x, 0, 298, 1, 0, 0);
        x = living("loop 99;hour 1;hour 1;hour 1;end;hour 1;when over i;hour 1;end;");
        Check.fine(x, "a STEP left within", x.live(0), 300);
        lived(x, 0, 298, 1, 0, 1);
        x = living("loop 99;hour 1;hour 1;hour 1;end;hour 1;when is h 0;hour 1;end;");
        Check.fine(x, "that does not come", x.live(0), 300);
        lived(x, 0, 298, 1, 0, 0);
        x = living("loop 99;hour 1;hour 1;hour 1;end;hour 1;loop 9;end;");
        Check.fine(x, "ends are none", x.live(0), 300);
        lived(x, 0, 298, 1, 0, 0);
    }

    private static void draws() {
        // s from 0: 11,351, by 8: 1,418, even: e, at p.
        ExtraCaste x = living("any;");
        x.live(0);
        lived(x, 0, 0, 0, 1, 0);
        Check.due("v, at p", x.watcher(1, 2), 1);
        Check.due("i is put off", x.happening(1, 1), 33);
        long s = 7;
        int[] warned = new int[2];
        x = living("loop 20;any;end;");
        Check.fine(x, "live", x.live(7), 21);
        for (int i = 0; i < 20; i++) {
            s = (s * 3121 + 11351) % 65536;
            warned[(int) (s / 8 % 2)]++;
        }
        Check.due("v by e", x.watcher(1, 2), warned[0]);
        Check.due("w by f", x.watcher(0, 2), warned[1]);
        lived(x, 0, 0, 0, 20, 0);
        x = Check.cityOf("corner p;corner q;extra e at p;watcher w at q fears 1;watcher v at q fears 7;");
        Check.weeks(x, "any;");
        Check.fine(x, "nobody there to warn", x.live(9999), 1);
        lived(x, 0, 0, 0, 0, 0);
    }

    private static void misses() {
        ExtraCaste x = Check.cityOf("corner p;corner q;road p q takes 9;extra e at p;happening h at q hour 2 great 1;"
            + "happening i at q hour 999 great 1;watcher w at q fears 1;");
        Check.weeks(x, "order e h;hour 1;any;hour 4;put h 1;put i 99;");
        Check.fine(x, "live", x.live(0), 6);
        lived(x, 2, 5, 0, 0, 0);
        // From 1,098 on.
        for (int i = 0; i < 89; i++) {
            x.put(1, 99);
        }
        Check.due("put", x.put(1, 72), 9981);
        Check.weeks(x, "put i 19;put i 18;");
        x.live(0);
        lived(x, 1, 0, 0, 0, 0);
        Check.due("9,999", x.happening(1, 1), 9999);
        for (int i = 0; i < 100; i++) {
            x.hour(99);
        }
        x.hour(48);
        Check.due("9,953", x.told(8), 9953);
        Check.weeks(x, "hour 47;hour 46;hour 1;");
        Check.fine(x, "live", x.live(0), 3);
        lived(x, 2, 46, 0, 46, 0);
        Check.due("9,999", x.told(8), 9999);
        x = Check.cityOf("corner p;corner q;road p q takes 2;extra e at p;happening h at q hour 9 great 1;roster e h;");
        Check.weeks(x, "hour 1;any;hour 1;any;");
        Check.fine(x, "an HOUR to go", x.live(0), 4);
        lived(x, 1, 2, 0, 0, 0);
        x = Check.cityOf("corner p;watcher w at p fears 1;");
        Check.weeks(x, "any;any;");
        Check.fine(x, "without EXTRAS", x.live(0), 2);
        lived(x, 2, 0, 0, 0, 0);
    }

    private static void means() {
        ExtraCaste x = Check.cityOf("wage 3;delay 1;corner p;corner q;extra e at p;extra f at q;"
            + "happening h at p hour 0 great 1;watcher w at p fears 7;");
        Check.weeks(x, "any;hour 1;");
        // If e falls, h is put off, and nobody has wages: by seeds 0 (11,351), 1 (14,472), 2 (17,593), 3 (20,714).
        long wages = 0;
        for (int seed = 0; seed < 4; seed++) {
            wages += (seed * 3121 + 11351) % 65536 / 8 % 2 == 0 ? 0 : 3;
        }
        Check.fraction(x, "mean", x.mean(0, 4), wages == 6 ? 3 : wages, wages == 6 ? 2 : 4);
        Check.fraction(x, "one seed", x.mean(0, 1), 0, 1);
        Check.fraction(x, "another seed", x.mean(1, 1), 3, 1);
        Check.fraction(x, "both", x.mean(0, 2), 3, 2);
        Check.due("all stays", x.told(8), 0);
        Check.due("all stays", x.told(9), 1);
        Check.due("all stays", x.watcher(0, 2), 0);
        Check.refused(x, "no live yet", x.lived(0), 6);
        Check.fine(x, "the last seed", x.mean(9999, 1));
        Check.fine(x, "the last seeds", x.mean(9980, 20));
        x.live(1);
        Check.fraction(x, "wages had count", x.mean(0, 3), 3, 1);
        lived(x, 0, 1, 1, 0, 0);
    }

    private static void refuses() {
        ExtraCaste x = new ExtraCaste();
        Check.refused(x, "live -1", x.live(-1), 1);
        Check.refused(x, "live 10,000", x.live(10000), 1);
        Check.refused(x, "no weeks", x.live(0), 6);
        Check.refused(x, "lived -1", x.lived(-1), 1);
        Check.refused(x, "lived 5", x.lived(5), 1);
        Check.refused(x, "no live", x.lived(4), 6);
        Check.refused(x, "seed -1", x.mean(-1, 1), 1);
        Check.refused(x, "seed 10,000", x.mean(10000, 1), 1);
        Check.refused(x, "many 0", x.mean(0, 0), 1);
        Check.refused(x, "many 21", x.mean(0, 21), 1);
        Check.refused(x, "above 9,999", x.mean(9981, 20), 1);
        Check.refused(x, "seed most", x.mean(Integer.MAX_VALUE, 20), 1);
        Check.refused(x, "no weeks", x.mean(9980, 20), 6);
    }
}
