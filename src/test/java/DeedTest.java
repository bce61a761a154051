/** Promises 19 to 27: hour(), order(), put(), raise(), plan(), bear(), post(), scare(), rule(). */
public final class DeedTest {
    private static final String CITY = "corner p;corner q;road p q takes 2;extra a at p;extra b at p;"
        + "happening x at p hour 3 great 2;happening y at q hour 5 great 1;watcher w at q fears 1;";

    public static void main(String[] args) {
        hours();
        hoursToTheLast();
        watchersPutOff();
        goalsByHours();
        orders();
        puts();
        raises();
        plans();
        bears();
        postsAndScares();
        rules();
        Check.end();
    }

    private static void hours() {
        ExtraCaste x = Check.cityOf(CITY);
        Check.refused(x, "hour 0", x.hour(0), 1);
        Check.refused(x, "hour 100", x.hour(100), 1);
        Check.refused(x, "hour -1", x.hour(-1), 1);
        Check.fine(x, "hour 3", x.hour(3), 0);
        Check.due("x to come", x.happening(0, 3), 0);
        Check.fine(x, "hour 3 goes by", x.hour(1), 1);
        Check.due("x happened", x.happening(0, 3), 1);
        Check.fine(x, "hour 99", x.hour(99), 0);
        Check.due("y failed", x.happening(1, 3), 2);
        Check.due("hour", x.told(8), 103);
    }

    private static void hoursToTheLast() {
        ExtraCaste x = Check.cityOf(CITY);
        for (int i = 0; i < 101; i++) {
            x.hour(99);
        }
        Check.due("9,999", x.told(8), 9999);
        Check.refused(x, "above", x.hour(1), 4);
        Check.refused(x, "a number first", x.hour(0), 1);
        Check.fine(x, "ahead none the less", x.whereIn(0, 300), 0);
        Check.due("stays", x.told(8), 9999);
        ExtraCaste y = Check.cityOf(CITY);
        for (int i = 0; i < 100; i++) {
            y.hour(99);
        }
        Check.fine(y, "to 9,998", y.hour(98), 0);
        Check.refused(y, "above", y.hour(2), 4);
        Check.fine(y, "to the last", y.hour(1), 0);
    }

    private static void watchersPutOff() {
        // Two stand at p and see nothing of q; the watcher there puts x off by 3 each HOUR, y of p's later one not.
        ExtraCaste x = Check.cityOf("delay 3;corner p;extra a at p;happening y at p hour 9 great 1;"
            + "happening x at p hour 4 great 1;happening z at p hour 9 great 1;watcher w at p fears 1;");
        int[][] due = {{9, 7, 9}, {9, 10, 9}, {12, 10, 9}, {12, 10, 12}, {12, 13, 12}, {15, 13, 12}};
        for (int i = 0; i < due.length; i++) {
            x.hour(1);
            Check.due("warned", x.watcher(0, 2), i + 1);
            for (int h = 0; h < 3; h++) {
                Check.due("hour " + i + " of " + h, x.happening(h, 1), due[i][h]);
            }
        }
        x = Check.cityOf("corner p;extra a at p;watcher w at p fears 1;watcher v at p fears 2;");
        x.hour(5);
        Check.due("warns all the same", x.watcher(0, 2), 5);
        Check.due("sees too few", x.watcher(1, 2), 0);
        // Of one HOUR the HAPPENING comes about ahead of the warning.
        x = Check.cityOf("corner p;extra a at p;happening h at p hour 0 great 1;watcher w at p fears 1;");
        Check.fine(x, "hour", x.hour(1), 1);
        Check.due("at hour 0", x.happening(0, 1), 0);
        // Putting off ends at 9,999.
        x = Check.cityOf("delay 24;corner p;extra a at p;happening h at p hour 999 great 1;watcher w at p fears 1;");
        for (int i = 0; i < 4; i++) {
            x.hour(99);
        }
        Check.due("9,999 at most", x.happening(0, 1), 9999);
    }

    private static void goalsByHours() {
        // e first goes to the sooner one, turns when that is put off only at the ROAD's end.
        ExtraCaste x = Check.cityOf("corner p;corner q;corner r;road p q takes 3;road p r takes 1;extra e at p;"
            + "happening h at q hour 5 great 1;happening i at r hour 7 great 1;roster e h i;");
        x.hour(1);
        Check.due("on the road to q", x.extra(0, 0), 11);
        x.put(0, 9);
        x.hour(1);
        Check.due("still", x.extra(0, 0), 11);
        x.hour(1);
        Check.due("at q", x.extra(0, 0), 1);
        x.hour(1);
        Check.due("back", x.extra(0, 0), 10);
        Check.due("two to go", x.extra(0, 1), 2);
        x.hour(3);
        Check.due("at r", x.extra(0, 0), 2);
        // Where there is no way he stays.
        x = Check.cityOf("corner p;corner q;extra e at p;happening h at q hour 5 great 1;roster e h;");
        Check.due("fails", x.hour(9), 0);
        Check.due("at p", x.extra(0, 0), 0);
    }

    private static void orders() {
        ExtraCaste x = Check.cityOf(CITY);
        Check.refused(x, "extra 2", x.order(2, 0, true), 1);
        Check.refused(x, "extra -1", x.order(-1, 0, true), 1);
        Check.refused(x, "happening 2", x.order(0, 2, true), 1);
        Check.refused(x, "happening -1", x.order(0, -1, false), 1);
        Check.refused(x, "not on it", x.order(0, 1, false), 7);
        Check.fine(x, "order", x.order(0, 1, true));
        Check.due("roster", x.extra(0, 2), 2);
        Check.refused(x, "is on it", x.order(0, 1, true), 7);
        Check.fine(x, "order", x.order(0, 0, true));
        Check.fine(x, "no more", x.order(0, 1, false));
        Check.due("roster", x.extra(0, 2), 1);
        Check.due("the other one's", x.extra(1, 2), 0);
        x.hour(9);
        Check.fine(x, "what is over, too", x.order(1, 0, true));
    }

    private static void puts() {
        ExtraCaste x = Check.cityOf(CITY);
        Check.refused(x, "happening 2", x.put(2, 1), 1);
        Check.refused(x, "happening -1", x.put(-1, 1), 1);
        Check.refused(x, "0 hours", x.put(0, 0), 1);
        Check.refused(x, "100 hours", x.put(0, 100), 1);
        Check.fine(x, "put 99", x.put(0, 99), 102);
        Check.fine(x, "put 1", x.put(0, 1), 103);
        for (int i = 0; i < 99; i++) {
            x.put(0, 99);
        }
        Check.fine(x, "9,904", x.happening(0, 1), 9904);
        Check.refused(x, "above 9,999", x.put(0, 96), 7);
        Check.fine(x, "9,999", x.put(0, 95), 9999);
        x.hour(6);
        Check.refused(x, "not to come", x.put(1, 1), 7);
        Check.due("stays", x.happening(1, 1), 5);
    }

    private static void raises() {
        ExtraCaste x = Check.cityOf(CITY);
        Check.refused(x, "happening 2", x.raise(2, 1), 1);
        Check.refused(x, "happening -1", x.raise(-1, 1), 1);
        Check.refused(x, "great 0", x.raise(0, 0), 1);
        Check.refused(x, "great 5", x.raise(0, 5), 1);
        Check.fine(x, "great 4", x.raise(0, 4));
        Check.due("great", x.happening(0, 2), 4);
        Check.fine(x, "great 1", x.raise(0, 1));
        x.hour(4);
        Check.due("wages by that", x.told(13), 2);
        Check.refused(x, "happened", x.raise(0, 1), 7);
        x.hour(4);
        Check.refused(x, "failed", x.raise(1, 2), 7);
    }

    private static void plans() {
        ExtraCaste x = Check.cityOf(CITY);
        Check.refused(x, "corner 2", x.plan(2, 0, 1), 1);
        Check.refused(x, "corner -1", x.plan(-1, 0, 1), 1);
        Check.refused(x, "hour -1", x.plan(0, -1, 1), 1);
        Check.refused(x, "hour 1000", x.plan(0, 1000, 1), 1);
        Check.refused(x, "great 0", x.plan(0, 0, 0), 1);
        Check.refused(x, "great 5", x.plan(0, 0, 5), 1);
        x.hour(10);
        Check.fine(x, "plan", x.plan(1, 999, 4), 2);
        Check.due("corner", x.happening(2, 0), 1);
        Check.due("hour", x.happening(2, 1), 999);
        Check.due("great", x.happening(2, 2), 4);
        Check.due("to come", x.happening(2, 3), 0);
        Check.due("on no roster", x.extra(0, 2), 0);
        // One that was to be ahead of now stays TO COME till it is put to an HOUR that comes.
        Check.fine(x, "plan", x.plan(0, 0, 1), 3);
        Check.fine(x, "hour", x.hour(1), 0);
        Check.due("to come", x.happening(3, 3), 0);
        Check.fine(x, "put", x.put(3, 11), 11);
        Check.fine(x, "hour", x.hour(1), 1);
        for (int i = 4; i < 8; i++) {
            Check.fine(x, "plan", x.plan(0, 20, 1), i);
        }
        Check.refused(x, "a ninth", x.plan(0, 20, 1), 4);
        Check.refused(x, "a number first", x.plan(0, 20, 5), 1);
        Check.due("eight", x.told(3), 8);
    }

    private static void bears() {
        ExtraCaste x = Check.cityOf(CITY);
        Check.refused(x, "corner 2", x.bear(2), 1);
        Check.refused(x, "corner -1", x.bear(-1), 1);
        for (int i = 2; i < 7; i++) {
            Check.fine(x, "bear", x.bear(1), i);
        }
        Check.due("stands", x.extra(2, 0), 1);
        Check.due("no roster", x.extra(2, 2), 0);
        Check.due("no wages", x.extra(2, 3), 0);
        Check.due("all of them", x.standing(1), 124);
        Check.refused(x, "an eighth", x.bear(1), 4);
        Check.refused(x, "a number first", x.bear(2), 1);
        Check.due("seven", x.told(2), 7);
    }

    private static void postsAndScares() {
        ExtraCaste x = Check.cityOf(CITY);
        Check.refused(x, "watcher 1", x.post(1, 0), 1);
        Check.refused(x, "watcher -1", x.post(-1, 0), 1);
        Check.refused(x, "corner 2", x.post(0, 2), 1);
        Check.refused(x, "corner -1", x.post(0, -1), 1);
        Check.refused(x, "he is there", x.post(0, 1), 7);
        Check.fine(x, "post", x.post(0, 0));
        Check.due("there", x.watcher(0, 0), 0);
        x.hour(1);
        Check.due("warned", x.watcher(0, 2), 1);
        Check.refused(x, "watcher 1", x.scare(1, 1), 1);
        Check.refused(x, "watcher -1", x.scare(-1, 1), 1);
        Check.refused(x, "fears 0", x.scare(0, 0), 1);
        Check.refused(x, "fears 8", x.scare(0, 8), 1);
        Check.fine(x, "least", x.scare(0, 1));
        Check.due("fears", x.watcher(0, 1), 1);
        Check.fine(x, "scare", x.scare(0, 7));
        Check.fine(x, "again", x.scare(0, 7));
        Check.due("fears", x.watcher(0, 1), 7);
        x.hour(1);
        Check.due("not warned", x.watcher(0, 2), 1);
    }

    private static void rules() {
        ExtraCaste x = Check.cityOf(CITY);
        int[][] ends = {{5, 0, 99}, {6, 1, 24}, {7, 0, 16}};
        for (int[] end : ends) {
            Check.refused(x, "too little", x.rule(end[0], end[1] - 1), 1);
            Check.refused(x, "too much", x.rule(end[0], end[2] + 1), 1);
            Check.fine(x, "least", x.rule(end[0], end[1]));
            Check.due("told", x.told(end[0]), end[1]);
            Check.fine(x, "most", x.rule(end[0], end[2]));
            Check.due("told", x.told(end[0]), end[2]);
        }
        Check.refused(x, "rule 4", x.rule(4, 1), 1);
        Check.refused(x, "rule 8", x.rule(8, 1), 1);
        x.hour(4);
        Check.due("wages by that", x.extra(0, 3), 198);
    }
}
