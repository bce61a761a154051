/** Promises 9, 10, 12: feed(), city(), fault(). */
public final class CityTextTest {
    private static final String P = "corner p;";
    private static final String PQ = "corner p;corner q;";

    public static void main(String[] args) {
        feeds();
        takesFromTheTape();
        takesNoMoreThanAsked();
        takesCities();
        takesAllNames();
        tellsFaultsOfTokens();
        tellsFaultsOfParts();
        tellsOneTooMany();
        Check.end();
    }

    private static void fault(String text, int kind, int place) {
        ExtraCaste x = Check.cityOf("wage 7;corner old;");
        Check.refused(x, "city " + text, Check.city(x, text), 9);
        Check.due("fault of " + text, x.fault(0), kind);
        Check.due("place in " + text, x.fault(1), place);
        Check.due("no other", x.fault(2), -1);
        Check.due("no other", x.fault(-1), -1);
        Check.due("status stays", x.status(), 9);
        Check.due("the old one stays", x.told(0), 1);
        Check.due("the old one stays", x.told(5), 7);
        Check.refused(x, "the tape is empty", x.city(1), 1);
        Check.due("fault stays", x.fault(0), kind);
    }

    private static void feeds() {
        ExtraCaste x = new ExtraCaste();
        for (int i = 1; i <= 45; i++) {
            Check.due("feed " + i, x.feed(0x20202020, 0x20202020, 0x20202020, 0x20202020, 0x20202020), 20 * i);
        }
        Check.due("feed 46", x.feed(0, 0, 0, 0, 0), -1);
        Check.due("no status", x.status(), 0);
        Check.fine(x, "900 blanks", x.city(900), 0);
        Check.due("feed anew", x.feed(0x77616765, 0x20343b7a, 0, 0, 0), 20);
        Check.fine(x, "highest byte first", x.city(7), 0);
        Check.due("wage 4", x.told(5), 4);
    }

    private static void takesFromTheTape() {
        ExtraCaste x = new ExtraCaste();
        Check.feed(x, P);
        Check.refused(x, "city -1", x.city(-1), 1);
        Check.refused(x, "city 21", x.city(21), 1);
        Check.due("no fault told", x.fault(0), -1);
        Check.due("the tape stays", x.feed(0, 0, 0, 0, 0), 40);
        Check.fine(x, "city", x.city(9), 1);
        Check.due("fault 0", x.fault(0), 0);
        Check.due("no place", x.fault(1), -1);
        Check.refused(x, "the tape is empty", x.city(9), 1);
        Check.fine(x, "city of nothing", x.city(0), 0);
        Check.due("no corners", x.told(0), 0);
    }

    private static void cutShort(String text, int n, int kind, int place) {
        ExtraCaste x = new ExtraCaste();
        Check.feed(x, text);
        Check.refused(x, n + " of " + text, x.city(n), 9);
        Check.due("fault of " + n + " of " + text, x.fault(0), kind);
        Check.due("place in " + n + " of " + text, x.fault(1), place);
    }

    private static void takesNoMoreThanAsked() {
        cutShort("wage 12;", 6, 2, 6);
        cutShort("corner p;wagex", 13, 2, 13);
        cutShort("corner p;wage", 12, 2, 9);
        cutShort("corner p;", 8, 2, 8);
        cutShort("wage 12345;", 9, 4, 5);
        // The last of 900 bytes is a letter, a digit.
        cutShort(many(" ", 899) + "a", 900, 2, 899);
        cutShort(many(" ", 899) + "1", 900, 2, 899);
        cutShort(many(" ", 894) + "wage 1", 900, 2, 900);
        ExtraCaste x = new ExtraCaste();
        Check.feed(x, "wage 5;wage 6;");
        Check.fine(x, "the first alone", x.city(7), 0);
        Check.due("wage", x.told(5), 5);
    }

    private static void takesAllNames() {
        ExtraCaste x = Check.cityOf(many("corner c#;", 8) + many("extra e# at ca;", 7)
            + many("happening h# at cb hour 1 great 1;", 8) + many("watcher w# at cc fears 1;", 4));
        Check.fine(x, "the last of each", Check.weeks(x, "order eg hh;when warned wd<1;end;when stands ea ch;end;"), 3);
        Check.fine(x, "live", x.live(0), 3);
        Check.due("roster", x.extra(6, 2), 128);
    }

    private static void takesCities() {
        ExtraCaste x = Check.cityOf("odds16;corner abcdefgh\n;corner q;corner r;road r q takes 9;road q r takes 4;"
            + "road r q takes 0005;wage 99;delay 24;extra e at q;happening h at r hour 999 great 4;"
            + "happening i at q hour 0 great 1;watcher w at r fears 7;roster e i h;");
        int[] told = {3, 3, 1, 2, 1, 99, 24, 16, 0, 3, 0, 0, 0, 0};
        for (int what = 0; what < told.length; what++) {
            Check.due("told " + what, x.told(what), told[what]);
        }
        Check.due("shortest road", x.road(1, 2), 4);
        Check.due("both ways", x.road(2, 1), 4);
        Check.due("roster", x.extra(0, 2), 3);
        Check.due("hour", x.happening(0, 1), 999);
        x = Check.cityOf("wage 0;delay 1;odds 0;corner p;extra e at p;extra f at p;happening h at p hour 1 great 1;"
            + "happening i at p hour 2 great 1;roster e h i;roster f i;roster e;roster f h;roster f h i;");
        Check.due("the latest roster, of none", x.extra(0, 2), 0);
        Check.due("the latest roster", x.extra(1, 2), 3);
        Check.fine(x, "rules again", Check.city(x, "wage 5;delay 6;odds 7;"), 0);
        Check.due("wage", x.told(5), 5);
        Check.due("delay", x.told(6), 6);
        Check.due("odds", x.told(7), 7);
        x = Check.cityOf("corner a;corner b;corner aa;corner ab;corner ba;corner z;corner zz;corner az;extra e at ba;"
            + "extra f at az;extra g at zz;");
        Check.due("ba", x.extra(0, 0), 4);
        Check.due("az", x.extra(1, 0), 7);
        Check.due("zz", x.extra(2, 0), 6);
        x = Check.cityOf("corner abcdefgh;corner bbcdefgh;corner abcdefgi;");
        Check.due("three", x.told(0), 3);
        x.hour(3);
        Check.weeks(x, "any;");
        Check.city(x, "corner p;extra e at p;happening h at p hour 1 great 1;watcher w at p fears 1;");
        Check.due("hour 0 again", x.told(8), 0);
        Check.due("to come", x.told(9), 1);
        Check.due("wage without", x.told(5), 1);
        Check.refused(x, "no weeks", x.live(0), 6);
    }

    private static void tellsFaultsOfTokens() {
        fault("Corner", 1, 0);
        fault("corner P", 1, 7);
        fault(P + "\t", 1, 9);
        fault("wage 12345;", 1, 5);
        fault("wage 00001;", 1, 5);
        fault("12345", 1, 0);
        fault("1234", 2, 0);
        fault(";", 2, 0);
        fault("<", 2, 0);
        fault("-", 1, 0);
        fault("wage ;", 2, 5);
        fault("wage", 2, 4);
        fault("wage 3  ", 2, 8);
        fault("wage 3 4", 2, 7);
        fault("wage x", 2, 5);
        fault("wage 3;x", 2, 7);
        fault("wage 3;" + (char) 0, 1, 7);
        fault("wage 3;" + (char) 233, 1, 7);
        fault("corner abcdefghi;", 2, 7);
        fault("corner happening;", 2, 7);
        fault("corner stop;", 2, 7);
        fault("corner 3;", 2, 7);
        fault("corner ;", 2, 7);
        fault(P + "extra at p;", 2, 15);
        fault(P + "road p ;", 2, 16);
        fault("stop;", 2, 0);
        fault("cornerp;", 2, 0);
        for (String word : Oracle.RESERVED) {
            fault("corner " + word + ";", 2, 7);
        }
    }

    private static void tellsFaultsOfParts() {
        fault(P + "corner p;", 3, 16);
        fault(P + "extra p at p;", 3, 15);
        fault(P + "extra e at e;", 3, 20);
        fault(P + "road p q takes 1;", 3, 16);
        fault(P + "road q p takes 1;", 3, 14);
        fault(P + "road p p takes 1;", 5, 16);
        fault(P + "extra e at p;happening e", 3, 32);
        fault(P + "extra e at p;watcher p", 3, 30);
        fault(P + "watcher w at w", 3, 22);
        fault(P + "roster p;", 3, 16);
        fault(P + "extra e at p;roster e p;", 3, 31);
        fault(P + "extra e at p;roster e x;", 3, 31);
        fault(P + "extra e at p;roster e abcdefghi;", 2, 31);
        fault(P + "extra e at p;roster e at;", 2, 31);
        fault(P + "extra e at p;roster e", 2, 30);
        fault(P + "extra e at p;roster e =", 2, 31);
        fault(P + "extra e at p;roster ;", 2, 29);
        fault(P + "extra e at p;happening h at p hour 1 great 1;roster e h h;", 5, 65);
        fault("wage 100;", 4, 5);
        fault("delay 0;", 4, 6);
        fault("delay 25;", 4, 6);
        fault("odds 17;", 4, 5);
        fault(PQ + "road p q takes 0;", 4, 33);
        fault(PQ + "road p q takes 10;", 4, 33);
        fault(P + "happening h at p hour 1000 great 1;", 4, 31);
        fault(P + "happening h at p hour 1 great 0;", 4, 39);
        fault(P + "happening h at p hour 1 great 5;", 4, 39);
        fault(P + "watcher w at p fears 0;", 4, 30);
        fault(P + "watcher w at p fears 8;", 4, 30);
        fault("wage 1;wage 2;", 5, 7);
        fault("delay 1;delay 2;", 5, 8);
        fault("odds 1;odds 2;", 5, 7);
        fault("wage 1 wage 2;", 2, 7);
        fault(PQ + "road p q 1;", 2, 27);
        fault(P + "extra e p;", 2, 17);
        fault(P + "happening h at p great 1;", 2, 26);
        fault(P + "happening h at p hour 1 fears 1;", 2, 33);
        fault(P + "watcher w at p great 1;", 2, 24);
    }

    private static String many(String one, int many) {
        StringBuilder b = new StringBuilder();
        for (int i = 0; i < many; i++) {
            b.append(one.replace('#', (char) ('a' + i)));
        }
        return b.toString();
    }

    private static void tellsOneTooMany() {
        String eight = many("corner c#;", 8);
        Check.due("eight corners", Check.city(new ExtraCaste(), eight), 8);
        fault(eight + "corner", 6, eight.length());
        String roads = PQ + many("road p q takes 1;", 12);
        Check.due("twelve roads", Check.cityOf(roads).told(1), 12);
        fault(roads + "road", 6, roads.length());
        String extras = P + many("extra e# at p;", 7);
        Check.due("seven extras", Check.cityOf(extras).told(2), 7);
        fault(extras + "extra", 6, extras.length());
        String happenings = P + many("happening h# at p hour 1 great 1;", 8);
        Check.due("eight happenings", Check.cityOf(happenings).told(3), 8);
        fault(happenings + "happening", 6, happenings.length());
        String watchers = P + many("watcher w# at p fears 1;", 4);
        Check.due("four watchers", Check.cityOf(watchers).told(4), 4);
        fault(watchers + "watcher", 6, watchers.length());
    }
}
