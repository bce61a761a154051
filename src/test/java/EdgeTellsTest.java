/** Boundary cases of promises 1, 2, 13 to 17: a new object, status(), told(), extra(), happening(), watcher(), standing(). */
public final class EdgeTellsTest {
    public static void main(String[] args) {
        promise1ANewObject();
        promise2OfTheLatestCallThatHasOne();
        promise13Sets();
        promise14StandsOrIsOnARoad();
        promise15HowManyStandThere();
        promise16HowOftenHeWarned();
        promise17TheSetOfThose();
        termsNoSuchThing();
        usedForFiveHundredAndTwelveCalls();
        Check.end();
    }

    /** Promise 1. */
    private static void promise1ANewObject() {
        ExtraCaste x = new ExtraCaste();
        Check.due("STATUS 0", x.status(), 0);
        Check.due("the FRACTION 0", x.top(), 0);
        Check.due("by 1", x.bottom(), 1);
        Check.due("no FAULT", x.fault(0), ExtraCaste.NONE);
        int[] told = {0, 0, 0, 0, 0, 1, 2, 1, 0, 0, 0, 0, 0, 0};
        for (int what = 0; what < told.length; what++) {
            Check.fine(x, "told " + what, x.told(what), told[what]);
        }
        Check.refused(x, "no WEEKS", x.live(0), 6);
        Check.refused(x, "none lived", x.lived(0), 6);
        Check.refused(x, "no MARKS", x.undo(), 6);
        Check.refused(x, "MISSING", x.read(0, 0), 2);
        Check.refused(x, "an empty tape", x.city(1), 1);
        Check.due("an empty tape", x.feed(0, 0, 0, 0, 0), 20);
        ExtraCaste y = new ExtraCaste();
        y.rule(5, 9);
        Check.due("no other one's", x.told(5), 1);
    }

    /** Promise 2, Terms ==== 5: from 0 to 9. */
    private static void promise2OfTheLatestCallThatHasOne() {
        ExtraCaste x = Edge.busy();
        x.told(0);
        Check.due("0", x.status(), 0);
        x.told(14);
        Check.due("1", x.status(), 1);
        x.read(3, 0);
        Check.due("2", x.status(), 2);
        x.read(0, 5);
        Check.due("3", x.status(), 3);
        x.mark();
        x.mark();
        Check.due("4", x.status(), 4);
        x.explained(0);
        Check.due("5", x.status(), 5);
        x.centre();
        Check.due("6", x.status(), 6);
        x.cut(0, 0);
        Check.due("7", x.status(), 7);
        x.pour(0, 0, 1, 0, 0);
        Check.due("8", x.status(), 8);
        x.city(20);
        Check.due("9", x.status(), 9);
        x.fault(0);
        x.top();
        x.bottom();
        x.feed(0, 0, 0, 0, 0);
        Check.due("9 still", x.status(), 9);
        Check.due("9 when asked again", x.status(), 9);
        x.undo();
        Check.due("0", x.status(), 0);
    }

    /** Promise 13: sets of none, of all; each HAPPENING is in one of three. */
    private static void promise13Sets() {
        ExtraCaste x = Check.cityOf("corner p;extra e at p;" + Edge.many("happening h# at p hour 1 great 1;", 8));
        sets(x, 255, 0, 0);
        x.hour(1);
        sets(x, 255, 0, 0);
        x.hour(1);
        sets(x, 0, 255, 0);
        x = Check.cityOf("corner p;" + Edge.many("happening h# at p hour 1 great 1;", 8));
        x.hour(2);
        sets(x, 0, 0, 255);
        x = Check.cityOf("corner p;extra e at p;happening a at p hour 0 great 1;happening b at p hour 0 great 2;"
            + "happening c at p hour 1 great 1;");
        x.hour(1);
        sets(x, 4, 1, 2);
        x = Check.cityOf("corner p;corner q;road p q takes 9;" + Edge.many("extra e# at p;", 7)
            + "happening h at q hour 99 great 1;" + Edge.many("roster e# h;", 7));
        Check.fine(x, "nobody on a ROAD", x.told(12), 0);
        x.hour(1);
        Check.fine(x, "all seven on a ROAD", x.told(12), 127);
        x.hour(8);
        Check.fine(x, "nobody on a ROAD", x.told(12), 0);
    }

    private static void sets(ExtraCaste x, int toCome, int happened, int failed) {
        Check.fine(x, "TO COME", x.told(9), toCome);
        Check.fine(x, "HAPPENED", x.told(10), happened);
        Check.fine(x, "FAILED", x.told(11), failed);
    }

    /** Promise 14: the CORNER where he stands, or 10 and that to which his ROAD goes together, of the first, the last. */
    private static void promise14StandsOrIsOnARoad() {
        ExtraCaste x = Check.cityOf(Edge.many("corner c#;", 8) + "road ca ch takes 9;extra e at ca;extra f at ch;"
            + "happening h at ch hour 99 great 1;happening i at ca hour 99 great 1;roster e h;roster f i;");
        Check.fine(x, "the first", x.extra(0, 0), 0);
        Check.fine(x, "the last", x.extra(1, 0), 7);
        x.hour(1);
        Check.fine(x, "to the last", x.extra(0, 0), 17);
        Check.fine(x, "to the first", x.extra(1, 0), 10);
        Check.fine(x, "eight to go", x.extra(0, 1), 8);
        x.hour(7);
        Check.fine(x, "to the last", x.extra(0, 0), 17);
        Check.fine(x, "one to go", x.extra(0, 1), 1);
        x.hour(1);
        Check.fine(x, "the last", x.extra(0, 0), 7);
        Check.fine(x, "none to go", x.extra(0, 1), 0);
        Check.fine(x, "the first", x.extra(1, 0), 0);
    }

    /** Promise 15: how many stand at its CORNER now, from none to seven, of what is over, too. */
    private static void promise15HowManyStandThere() {
        for (int many = 0; many <= 7; many++) {
            ExtraCaste x = Check.cityOf("corner p;corner q;" + Edge.many("extra e# at q;", many)
                + "happening h at q hour 0 great 4;happening i at p hour 9 great 1;");
            Check.fine(x, many + " there", x.happening(0, 4), many);
            Check.fine(x, "none here", x.happening(1, 4), 0);
            x.hour(1);
            Check.fine(x, many + " there", x.happening(0, 4), many);
        }
    }

    /** Promise 16: none at first, by one each HOUR in which he sees enough. */
    private static void promise16HowOftenHeWarned() {
        ExtraCaste x = Check.cityOf("corner p;extra e at p;watcher w at p fears 1;");
        Check.fine(x, "none", x.watcher(0, 2), 0);
        x.hour(1);
        Check.fine(x, "one", x.watcher(0, 2), 1);
        for (int i = 0; i < 100; i++) {
            x.hour(99);
        }
        Check.fine(x, "9,901", x.watcher(0, 2), 9901);
        x.hour(98);
        Check.fine(x, "9,999", x.watcher(0, 2), 9999);
        Check.weeks(x, "any;");
        x.live(0);
        Check.fine(x, "10,000", x.watcher(0, 2), 10000);
    }

    /** Promise 17: of none, of all. */
    private static void promise17TheSetOfThose() {
        ExtraCaste x = Check.cityOf("corner p;corner q;" + Edge.many("extra e# at q;", 7));
        Check.fine(x, "nobody", x.standing(0), 0);
        Check.fine(x, "all", x.standing(1), 127);
        Check.refused(x, "no such one", x.standing(2), 1);
        Check.refused(x, "no such one", x.standing(-1), 1);
    }

    /** Terms ==== 5: 1: no such CORNER, EXTRA, HAPPENING, WATCHER, where there are none, and one behind the last. */
    private static void termsNoSuchThing() {
        ExtraCaste x = Check.cityOf("corner p;");
        for (int n : new int[] {0, 1, -1}) {
            Check.refused(x, "no EXTRA " + n, x.extra(n, 0), 1);
            Check.refused(x, "no HAPPENING " + n, x.happening(n, 0), 1);
            Check.refused(x, "no WATCHER " + n, x.watcher(n, 0), 1);
        }
        x.bear(0);
        x.plan(0, 0, 1);
        Check.fine(x, "EXTRA 0", x.extra(0, 0), 0);
        Check.fine(x, "HAPPENING 0", x.happening(0, 0), 0);
        Check.refused(x, "no EXTRA 1", x.extra(1, 0), 1);
        Check.refused(x, "no HAPPENING 1", x.happening(1, 0), 1);
        x = Check.cityOf(Edge.many("corner c#;", 8) + Edge.many("extra e# at ca;", 7)
            + Edge.many("happening h# at ca hour 1 great 1;", 8) + Edge.many("watcher w# at ca fears 1;", 4));
        Check.fine(x, "CORNER 7", x.standing(7), 0);
        Check.refused(x, "no CORNER 8", x.standing(8), 1);
        Check.fine(x, "EXTRA 6", x.extra(6, 0), 0);
        Check.refused(x, "no EXTRA 7", x.extra(7, 0), 1);
        Check.fine(x, "HAPPENING 7", x.happening(7, 0), 0);
        Check.refused(x, "no HAPPENING 8", x.happening(8, 0), 1);
        Check.fine(x, "WATCHER 3", x.watcher(3, 0), 0);
        Check.refused(x, "no WATCHER 4", x.watcher(4, 0), 1);
    }

    /** "An object is used for at most 512 calls": the last of them is answered as the first. */
    private static void usedForFiveHundredAndTwelveCalls() {
        ExtraCaste x = new ExtraCaste();
        for (int i = 1; i <= 45; i++) {
            x.feed(0x0a0a0a0a, 0x0a0a0a0a, 0x0a0a0a0a, 0x0a0a0a0a, 0x0a0a0a0a);
        }
        x.city(900);
        for (int i = 47; i <= 510; i++) {
            x.hour(1);
        }
        Check.due("call 511", x.told(8), 464);
        Check.due("call 512", x.rule(5, 99), true);
    }
}
