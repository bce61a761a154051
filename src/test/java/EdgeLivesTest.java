/**
 * Boundary cases of how WEEKS go by (Terms ==== 4): STEPS, LOOPS, TESTS, what is MISSED, draws, LIVED, FRACTIONS; and of
 * promises 3, 4, 54 to 56: top(), bottom(), live(), lived(), mean().
 */
public final class EdgeLivesTest {
    private static final String CITY = "wage 2;corner p;corner q;road p q takes 2;extra e at p;happening h at p hour 0 great 1;"
        + "happening i at p hour 0 great 2;happening j at q hour 900 great 1;watcher w at q fears 1;";

    public static void main(String[] args) {
        promise54NoWeeks();
        promise54HowManySteps();
        termsThreeHundredSteps();
        termsThreeHundredInLoops();
        termsEndsCountForNothing();
        termsLoopsOneToNinetyNine();
        termsStopIsNotLeft();
        termsWhenTestsHold();
        termsWarnedFromNoneToTheMost();
        termsHoursBeyondTheLast();
        termsPutsThatCannotBe();
        termsAnyOfOneOnARoad();
        termsAnyWithoutExtras();
        termsOrderTurns();
        termsDrawsFromTheSeedOn();
        termsDrawsByHowManyThereAre();
        termsAnyWhateverHeFears();
        promise55NoneLived();
        promise55OfTheLatest();
        promise56OneToTwentySeeds();
        promise56AllStaysAsItIs();
        promises3And4WithoutACommonDivisor();
        Check.end();
    }

    private static ExtraCaste living(String city, String weeks) {
        ExtraCaste x = Check.cityOf(city);
        Check.weeks(x, weeks);
        Check.due("weeks " + weeks, x.status(), 0);
        return x;
    }

    private static void lived(ExtraCaste x, int missed, int hours, int happened, int warned, int left) {
        int[] due = {missed, hours, happened, warned, left};
        for (int what = 0; what < due.length; what++) {
            Check.fine(x, "lived " + what, x.lived(what), due[what]);
        }
    }

    /** Promise 54: 1; 6: no WEEKS. */
    private static void promise54NoWeeks() {
        Edge.Made without = () -> Check.cityOf(CITY);
        Edge.refused("no WEEKS", without, x -> x.live(0), 6);
        Edge.refused("no WEEKS", without, x -> x.live(9999), 6);
        Edge.refused("1 ahead of 6", without, x -> x.live(10000), 1);
        Edge.refused("1 ahead of 6", without, x -> x.live(-1), 1);
        Edge.refused("P56 no WEEKS", without, x -> Edge.yes(x.mean(0, 20)), 6);
        Edge.refused("P56 1 ahead of 6", without, x -> Edge.yes(x.mean(0, 21)), 1);
        Edge.refused("P56 1 ahead of 6", without, x -> Edge.yes(x.mean(9999, 2)), 1);
    }

    /** Promise 54: how many STEPS were come to, MISSED ones, too. */
    private static void promise54HowManySteps() {
        ExtraCaste x = living(CITY, "");
        Check.fine(x, "none", x.live(0), 0);
        lived(x, 0, 0, 0, 0, 0);
        x = living(CITY, "hour 1;");
        Check.fine(x, "one", x.live(0), 1);
        lived(x, 0, 1, 1, 0, 0);
        x = living(CITY, "hour 1;put h 1;put i 1;");
        Check.fine(x, "two MISSED", x.live(0), 3);
        lived(x, 2, 1, 1, 0, 0);
        Check.fine(x, "again", x.live(0), 3);
        lived(x, 2, 1, 0, 0, 0);
        x = living(CITY, Edge.many("order e h;", 30));
        Check.fine(x, "thirty", x.live(9999), 30);
    }

    /** Terms ==== 4: at most 300 STEPS; promise 55: 1 if a STEP was left to be done. */
    private static void termsThreeHundredSteps() {
        // A loop is one STEP, each time 3 more: 98 times 3 and 1 are 295.
        String loop = "loop 98;order e h;order e h;order e h;end;";
        for (int more = 3; more <= 7; more++) {
            ExtraCaste x = living(CITY, loop + Edge.many("order e i;", more));
            Check.fine(x, 295 + more + " STEPS", x.live(0), Math.min(300, 295 + more));
            lived(x, 0, 0, 0, 0, more > 5 ? 1 : 0);
            Check.due("the 300th is done, the 301st is not", x.extra(0, 2), Math.min(5, more) % 2 == 1 ? 2 : 0);
        }
        ExtraCaste x = living(CITY, loop + "order e h;order e h;order e h;order e h;hour 1;");
        Check.fine(x, "the 300th is an HOUR", x.live(0), 300);
        lived(x, 0, 1, 1, 0, 0);
        x = living(CITY, loop + "order e h;order e h;order e h;order e h;put i 1;");
        Check.fine(x, "the 300th is a put", x.live(0), 300);
        Check.due("put", x.happening(1, 1), 1);
    }

    /** Terms ==== 4: when, loop count as one each time they are come to from ahead. */
    private static void termsThreeHundredInLoops() {
        // 1 and 99 times 2 is 199; then 1 and 99 is 299.
        ExtraCaste x = living(CITY, "loop 99;any;any;end;loop 99;any;end;hour 1;");
        Check.fine(x, "300", x.live(0), 300);
        lived(x, 0, 1, 1, 0, 0);
        x = living(CITY, "any;loop 99;any;any;end;loop 99;any;end;hour 1;");
        Check.fine(x, "one more ahead", x.live(0), 300);
        lived(x, 0, 0, 0, 0, 1);
        // Each time a loop within is come to it counts again: 1 and 99 times 3 is 298.
        x = living(CITY, "loop 99;loop 1;any;end;hour 1;end;");
        Check.fine(x, "298", x.live(0), 298);
        lived(x, 0, 99, 1, 0, 0);
        // The 300th STEP in the midst of a loop: its other times are left.
        x = living(CITY, "loop 99;hour 1;hour 1;hour 1;hour 1;end;");
        Check.fine(x, "74 times 4 and 3", x.live(0), 300);
        lived(x, 0, 299, 1, 0, 1);
        // As the last STEP of a time but not the last time.
        x = living(CITY, "any;any;any;loop 99;hour 1;hour 1;hour 1;hour 1;end;");
        Check.fine(x, "74 times 4", x.live(0), 300);
        lived(x, 0, 296, 1, 0, 1);
        // As the last STEP of the last time.
        x = living(CITY, "any;any;any;loop 74;hour 1;hour 1;hour 1;hour 1;end;");
        Check.fine(x, "74 times 4, and no more", x.live(0), 300);
        lived(x, 0, 296, 1, 0, 0);
        // A when that does not hold, a loop of nothing as the 300th.
        x = living(CITY, "any;any;loop 74;hour 1;hour 1;hour 1;hour 1;end;when is j 2;any;end;");
        Check.fine(x, "a when", x.live(0), 300);
        lived(x, 0, 296, 1, 0, 0);
        x = living(CITY, "any;any;loop 74;hour 1;hour 1;hour 1;hour 1;end;when is j 0;any;end;");
        Check.fine(x, "a when that holds", x.live(0), 300);
        lived(x, 0, 296, 1, 0, 1);
        x = living(CITY, "any;any;loop 74;hour 1;hour 1;hour 1;hour 1;end;loop 99;end;");
        Check.fine(x, "a loop of nothing", x.live(0), 300);
        lived(x, 0, 296, 1, 0, 0);
    }

    /** Terms ==== 4: end does not count; loops of nothing come to an end. */
    private static void termsEndsCountForNothing() {
        ExtraCaste x = living(CITY, "loop 99;end;hour 1;");
        Check.fine(x, "a loop of nothing is one STEP", x.live(0), 2);
        lived(x, 0, 1, 1, 0, 0);
        x = living(CITY, "loop 99;loop 99;end;end;hour 1;");
        Check.fine(x, "1 and 99 and 1", x.live(0), 101);
        lived(x, 0, 1, 1, 0, 0);
        x = living(CITY, "loop 99;loop 99;loop 99;end;end;end;hour 1;");
        Check.fine(x, "three deep", x.live(0), 300);
        lived(x, 0, 0, 0, 0, 1);
        x = living(CITY, "loop 3;when is h 2;any;end;end;hour 1;");
        Check.fine(x, "1 and 3 and 1", x.live(0), 5);
        x = living(CITY, "when is h 2;loop 99;any;end;end;hour 1;");
        Check.fine(x, "what is within is not come to", x.live(0), 2);
    }

    /** Terms ==== 4: loop n (1 to 99): as often. */
    private static void termsLoopsOneToNinetyNine() {
        for (int n : new int[] {1, 2, 98, 99}) {
            ExtraCaste x = living(CITY, "loop " + n + ";hour 1;end;order e h;");
            Check.fine(x, n + " times", x.live(0), n + 2);
            Check.due("HOUR", x.told(8), n);
            Check.due("what comes behind", x.extra(0, 2), 1);
        }
        ExtraCaste x = living(CITY, "loop 2;loop 3;loop 4;hour 1;end;end;end;");
        Check.fine(x, "1 and 2 and 6 and 24", x.live(0), 33);
        Check.due("HOUR", x.told(8), 24);
        x = living(CITY, "hour 48;hour 1;");
        Check.fine(x, "the most and the least", x.live(0), 2);
        Check.due("HOUR", x.told(8), 49);
    }

    /** Promise 55: by the 300 alone, not by stop. */
    private static void termsStopIsNotLeft() {
        ExtraCaste x = living(CITY, "stop;hour 1;");
        Check.fine(x, "the first STEP", x.live(0), 1);
        lived(x, 0, 0, 0, 0, 0);
        x = living(CITY, "loop 2;when is h 0;loop 9;hour 1;stop;end;end;end;hour 1;");
        Check.fine(x, "three deep", x.live(0), 5);
        lived(x, 0, 1, 1, 0, 0);
        x = living(CITY, "any;any;loop 74;hour 1;hour 1;hour 1;hour 1;end;stop;any;");
        Check.fine(x, "stop is the 300th", x.live(0), 300);
        lived(x, 0, 296, 1, 0, 0);
        x = living(CITY, "any;any;any;loop 74;hour 1;hour 1;hour 1;hour 1;end;stop;");
        Check.fine(x, "stop is the 301st", x.live(0), 300);
        lived(x, 0, 296, 1, 0, 1);
        x = living(CITY, "hour 1;");
        x.live(0);
        lived(x, 0, 1, 1, 0, 0);
    }

    private static void holds(String ahead, String test, boolean due) {
        ExtraCaste x = living(CITY, ahead + "when " + test + ";order e j;end;");
        x.live(0);
        Check.due(ahead + test, x.extra(0, 2) >> 2, due ? 1 : 0);
    }

    /** Terms ==== 4: is (0 TO COME, 1 it HAPPENED, 2 it FAILED), stands, over. */
    private static void termsWhenTestsHold() {
        for (int fate = 0; fate <= 2; fate++) {
            holds("", "is h " + fate, fate == 0);
            holds("", "is i " + fate, fate == 0);
            holds("hour 1;", "is h " + fate, fate == 1);
            holds("hour 1;", "is i " + fate, fate == 2);
            holds("hour 1;", "is j " + fate, fate == 0);
        }
        holds("", "over h", false);
        holds("hour 1;", "over h", true);
        holds("hour 1;", "over i", true);
        holds("hour 48;", "over j", false);
        holds("", "stands e p", true);
        holds("", "stands e q", false);
        // On the ROAD he stands at neither end.
        String ordered = "order e j;hour 1;order e j;";
        holds(ordered, "stands e p", false);
        holds(ordered, "stands e q", false);
        holds(ordered + "hour 1;", "stands e q", true);
        holds(ordered + "hour 1;", "stands e p", false);
    }

    /** Terms ==== 4: warned: how often (0 to 9,999), by <, >, =. */
    private static void termsWarnedFromNoneToTheMost() {
        String there = "order e j;hour 2;order e j;hour 2;";
        holds("", "warned w<0", false);
        holds("", "warned w=0", true);
        holds("", "warned w>0", false);
        holds("", "warned w<1", true);
        holds("", "warned w<9999", true);
        holds("", "warned w=9999", false);
        // He comes in HOUR 1; by HOUR 4 that is three times.
        for (int n = 2; n <= 4; n++) {
            holds(there, "warned w<" + n, 3 < n);
            holds(there, "warned w=" + n, 3 == n);
            holds(there, "warned w>" + n, 3 > n);
        }
        ExtraCaste x = Check.cityOf("corner p;extra e at p;happening h at p hour 0 great 1;watcher w at p fears 1;");
        for (int i = 0; i < 101; i++) {
            x.hour(99);
        }
        Check.due("warned", x.watcher(0, 2), 9999);
        Check.weeks(x, "when warned w<9999;stop;end;when warned w>9999;stop;end;when warned w=9999;order e h;end;");
        Check.fine(x, "live", x.live(0), 4);
        Check.due("the most", x.extra(0, 2), 1);
        Check.weeks(x, "any;when warned w>9999;order e h;end;");
        Check.fine(x, "live", x.live(0), 3);
        Check.due("more than the most", x.extra(0, 2), 0);
    }

    private static ExtraCaste at(ExtraCaste x, int hour) {
        for (int left = hour - x.told(8); left > 0; left -= Math.min(left, 99)) {
            x.hour(Math.min(left, 99));
        }
        return x;
    }

    /** Terms ==== 4: MISSED: HOURS beyond 9,999, as a whole. */
    private static void termsHoursBeyondTheLast() {
        int[][] cases = {{9951, 48, 1}, {9952, 48, 0}, {9998, 1, 1}, {9999, 1, 0}, {9998, 2, 0}, {9999, 48, 0}};
        for (int[] c : cases) {
            ExtraCaste x = at(Check.cityOf(CITY), c[0]);
            Check.weeks(x, "hour " + c[1] + ";");
            Check.fine(x, c[1] + " from " + c[0], x.live(0), 1);
            lived(x, 1 - c[2], c[1] * c[2], 0, 0, 0);
            Check.due("HOUR", x.told(8), c[0] + c[1] * c[2]);
        }
        ExtraCaste x = at(Check.cityOf(CITY), 9990);
        Check.weeks(x, "loop 3;hour 4;end;hour 1;hour 1;");
        Check.fine(x, "the STEPS behind are come to", x.live(0), 6);
        lived(x, 2, 9, 0, 0, 0);
        Check.due("HOUR", x.told(8), 9999);
    }

    /** Terms ==== 4: MISSED: a put of what is not TO COME, or beyond HOUR 9,999. */
    private static void termsPutsThatCannotBe() {
        ExtraCaste x = living(CITY, "hour 1;put h 1;put i 99;put j 99;put j 1;");
        x.live(0);
        lived(x, 2, 1, 1, 0, 0);
        Check.due("h", x.happening(0, 1), 0);
        Check.due("i", x.happening(1, 1), 0);
        Check.due("j", x.happening(2, 1), 1000);
        int[][] cases = {{9900, 99, 1}, {9901, 99, 0}, {9998, 1, 1}, {9999, 1, 0}};
        for (int[] c : cases) {
            x = Check.cityOf(CITY);
            for (int left = c[0] - 900; left > 0; left -= Math.min(left, 99)) {
                x.put(2, Math.min(left, 99));
            }
            Check.weeks(x, "put j " + c[1] + ";");
            x.live(0);
            lived(x, 1 - c[2], 0, 0, 0, 0);
            Check.due("HOUR", x.happening(2, 1), c[0] + c[1] * c[2]);
        }
    }

    /** Terms ==== 4: MISSED: any of one who is on a ROAD; the draw is made all the same. */
    private static void termsAnyOfOneOnARoad() {
        ExtraCaste x = living(CITY, "order e j;hour 1;any;hour 1;any;");
        Check.fine(x, "live", x.live(0), 5);
        lived(x, 1, 2, 0, 2, 0);
        // Two EXTRAS, e on a ROAD: who the second draw takes tells that the first was made.
        String two = CITY + "extra f at q;watcher v at q fears 7;";
        for (int seed = 0; seed < 30; seed++) {
            x = living(two, "order e j;hour 1;any;any;");
            x.live(seed);
            int first = (seed * 3121 + 11351) % 65536;
            int second = (int) ((first * 3121L + 11351) % 65536);
            int ofF = first / 8 % 2 + second / 8 % 2;
            Check.due("MISSED by " + seed, x.lived(0), 2 - ofF);
            Check.due("v warned by " + seed, x.watcher(1, 2), ofF);
        }
    }

    /** Terms ==== 4: MISSED: any without EXTRAS (no draw). */
    private static void termsAnyWithoutExtras() {
        ExtraCaste x = living("corner p;watcher w at p fears 1;", "any;any;");
        Check.fine(x, "live", x.live(0), 2);
        lived(x, 2, 0, 0, 0, 0);
        x.bear(0);
        Check.fine(x, "with one born", x.live(0), 2);
        lived(x, 0, 0, 0, 2, 0);
        x = living("", "any;");
        Check.fine(x, "without a CITY", x.live(0), 1);
        lived(x, 1, 0, 0, 0, 0);
    }

    /** Terms ==== 4: the HAPPENING is on the EXTRA's ROSTER, or no more if it was; never MISSED. */
    private static void termsOrderTurns() {
        ExtraCaste x = living(CITY, "order e h;");
        for (int i = 1; i <= 4; i++) {
            x.live(0);
            Check.due("turn " + i, x.extra(0, 2), i % 2);
            lived(x, 0, 0, 0, 0, 0);
        }
        x.hour(1);
        x.live(0);
        Check.due("what is over, too", x.extra(0, 2), 1);
        lived(x, 0, 0, 0, 0, 0);
    }

    private static String apart(int extras) {
        // Each EXTRA stands at a CORNER of his own; the WATCHERS of the first four tell who falls there.
        StringBuilder b = new StringBuilder(Edge.many("corner c#;", 8));
        b.append(Edge.many("extra e# at c#;", extras));
        return b.append(Edge.many("watcher w# at c# fears 7;", 4)).toString();
    }

    /** Terms ==== 4: s, at first the seed, becomes what is left of s times 3,121 and 11,351 by 65,536: it wraps around. */
    private static void termsDrawsFromTheSeedOn() {
        for (int seed : new int[] {0, 1, 17, 18, 20, 4096, 9998, 9999}) {
            ExtraCaste x = living(apart(4), Edge.many("any;", 30));
            Check.fine(x, "live", x.live(seed), 30);
            long s = seed;
            int[] falls = new int[4];
            for (int i = 0; i < 30; i++) {
                s = (s * 3121 + 11351) % 65536;
                falls[(int) (s / 8 % 4)]++;
            }
            for (int w = 0; w < 4; w++) {
                Check.due("falls at " + w + " by " + seed, x.watcher(w, 2), falls[w]);
            }
            lived(x, 0, 0, 0, 30, 0);
        }
        // The draws begin anew with each live().
        ExtraCaste x = living(apart(2), "any;");
        x.live(3);
        x.live(3);
        // By 3: 20,714 by 8 is 2,589, which is odd.
        Check.due("the same twice", x.watcher(1, 2), 2);
    }

    /** Terms ==== 4: by how many there are, from one to seven, those born counted. */
    private static void termsDrawsByHowManyThereAre() {
        for (int many = 1; many <= 7; many++) {
            for (int seed = 0; seed < 12; seed++) {
                ExtraCaste x = living(apart(many - 1), "any;");
                x.bear(many - 1);
                x.live(seed);
                int who = (seed * 3121 + 11351) % 65536 / 8 % many;
                for (int w = 0; w < 4; w++) {
                    Check.due(many + " by " + seed + " at " + w, x.watcher(w, 2), w == who ? 1 : 0);
                }
            }
        }
    }

    /** Terms ==== 4: each WATCHER there, by numbers, WARNS, whatever he FEARS, as in an HOUR: 9,999 at most. */
    private static void termsAnyWhateverHeFears() {
        ExtraCaste x = living("delay 3;corner p;corner q;extra e at p;happening h at p hour 5 great 1;happening i at p hour 6 great 1;"
            + "watcher w at p fears 7;watcher v at q fears 1;watcher u at p fears 1;", "any;");
        x.live(0);
        lived(x, 0, 0, 0, 2, 0);
        Check.due("h", x.happening(0, 1), 8);
        Check.due("i", x.happening(1, 1), 9);
        Check.due("w", x.watcher(0, 2), 1);
        Check.due("v", x.watcher(1, 2), 0);
        Check.due("u", x.watcher(2, 2), 1);
        x = Check.cityOf("delay 24;corner p;extra e at p;happening h at p hour 999 great 1;watcher w at p fears 7;");
        Check.weeks(x, "loop 99;any;any;end;loop 33;any;any;end;");
        x.live(0);
        Check.due("264 times 24 later", x.happening(0, 1), 999 + 264 * 24);
        x.live(0);
        Check.due("9,999 at most", x.happening(0, 1), 9999);
        Check.due("warned all the same", x.watcher(0, 2), 528);
    }

    /** Promise 55: 1; 6: there was none. */
    private static void promise55NoneLived() {
        Edge.Made none = () -> living(CITY, "hour 1;");
        for (int what = 0; what <= 4; what++) {
            int w = what;
            Edge.refused("none", none, x -> x.lived(w), 6);
        }
        Edge.refused("1 ahead of 6", none, x -> x.lived(5), 1);
        Edge.refused("1 ahead of 6", none, x -> x.lived(-1), 1);
        ExtraCaste x = none.make();
        x.mean(0, 20);
        Check.refused(x, "mean() is none", x.lived(0), 6);
        x.live(10000);
        Check.refused(x, "one that was refused is none", x.lived(0), 6);
        x.live(0);
        Check.fine(x, "one", x.lived(1), 1);
    }

    /** Promise 55: of live() latest with STATUS 0, whatever came behind it. */
    private static void promise55OfTheLatest() {
        ExtraCaste x = living(CITY, "put h 9;hour 48;put h 9;");
        x.mark();
        x.live(0);
        lived(x, 1, 48, 1, 0, 0);
        x.live(-1);
        lived(x, 1, 48, 1, 0, 0);
        x.mean(0, 2);
        x.hour(1);
        x.undo();
        lived(x, 1, 48, 1, 0, 0);
        Check.city(x, "");
        lived(x, 1, 48, 1, 0, 0);
        x.live(0);
        Check.due("no WEEKS", x.status(), 6);
        lived(x, 1, 48, 1, 0, 0);
        Check.weeks(x, "");
        x.live(0);
        lived(x, 0, 0, 0, 0, 0);
        // Of this one alone, not of those ahead of it, too.
        x = living("corner p;extra e at p;happening h at p hour 0 great 1;watcher w at p fears 1;watcher v at p fears 1;",
            "loop 2;loop 2;loop 2;hour 1;put h 1;end;end;end;");
        for (int i = 0; i < 3; i++) {
            Check.fine(x, "1 and 2 and 4 and 16", x.live(0), 23);
            lived(x, 8, 8, i == 0 ? 1 : 0, 16, 0);
        }
        Check.weeks(x, "loop 99;hour 1;any;any;any;end;");
        x.live(0);
        lived(x, 0, 75, 0, 2 * 299, 1);
        Check.weeks(x, "any;");
        x.live(0);
        lived(x, 0, 0, 0, 2, 0);
    }

    private static final String FALLS = "wage 7;corner p;corner q;extra e at p;extra f at q;"
        + "happening h at p hour 0 great 1;watcher w at p fears 7;";

    /** WAGES behind "any;hour 1;": none if e falls, as h is put off then. */
    private static int wages(int seed) {
        return (seed * 3121 + 11351) % 65536 / 8 % 2 == 0 ? 0 : 7;
    }

    /** Promise 56: by so many seeds (1 to 20) from one on, to 9,999. */
    private static void promise56OneToTwentySeeds() {
        ExtraCaste x = living(FALLS, "any;hour 1;");
        for (int first : new int[] {0, 1, 5, 9980}) {
            for (int many : new int[] {1, 2, 3, 7, 19, 20}) {
                long sum = 0;
                for (int i = 0; i < many; i++) {
                    sum += wages(first + i);
                }
                long common = java.math.BigInteger.valueOf(sum).gcd(java.math.BigInteger.valueOf(many)).longValue();
                Check.fraction(x, many + " from " + first, x.mean(first, many), sum / common, many / common);
            }
        }
        Check.fraction(x, "the last one", x.mean(9999, 1), wages(9999), 1);
        Check.refused(x, "the last above 9,999", x.mean(9999, 2), 1);
        Check.refused(x, "the last above 9,999", x.mean(9981, 20), 1);
        Check.refused(x, "seed and many wrap around", x.mean(Integer.MAX_VALUE, 2), 1);
        Check.due("the FRACTION stays", x.bottom(), 1);
        Check.due("the FRACTION stays", x.top(), wages(9999));
    }

    /** Promise 56: all stays as it is; WAGES that all had ahead count. */
    private static void promise56AllStaysAsItIs() {
        ExtraCaste x = Edge.busy();
        ExtraCaste y = Edge.busy();
        Check.fine(x, "mean", x.mean(0, 20));
        x.falls(2);
        y.falls(2);
        Check.due("nothing else changes", Edge.look(x).equals(Edge.look(y)), true);
        x = living("wage 5;corner p;extra e at p;happening h at p hour 0 great 1;", "hour 1;");
        x.hour(1);
        Check.fraction(x, "those had ahead", x.mean(0, 20), 5, 1);
        x = living("corner p;", "hour 1;");
        Check.fraction(x, "nobody", x.mean(0, 20), 0, 1);
    }

    /** Terms ==== 4: FRACTIONS without a common divisor, the bottom above 0; 0 is 0 by 1. Promises 3, 4. */
    private static void promises3And4WithoutACommonDivisor() {
        ExtraCaste x = living("wage 99;corner p;corner q;extra e at p;extra f at p;happening h at p hour 0 great 2;"
            + "watcher w at q fears 7;", "hour 1;");
        Check.fraction(x, "a whole number", x.mean(0, 20), 396, 1);
        x.told(99);
        x.falls(9);
        x.mean(0, 0);
        Check.due("top() of the latest", x.top(), 396);
        Check.due("bottom() of the latest", x.bottom(), 1);
        x.rule(7, 0);
        Check.fraction(x, "0 by 1", x.falls(1), 0, 1);
        x.rule(7, 4);
        Check.fraction(x, "7 by 16", x.falls(1), 7, 16);
        Check.fraction(x, "1 by 16", x.falls(2), 1, 16);
        Check.fraction(x, "396 by 1 again", x.mean(0, 1), 396, 1);
    }
}
