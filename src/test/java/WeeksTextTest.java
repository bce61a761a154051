/** Promises 11, 12: weeks(), and fault() behind it. */
public final class WeeksTextTest {
    private static final String CITY = "corner p;extra e at p;happening h at p hour 5 great 1;watcher w at p fears 1;";

    public static void main(String[] args) {
        takesWeeks();
        takesFromTheTape();
        tellsFaults();
        Check.end();
    }

    private static void fault(String text, int kind, int place) {
        ExtraCaste x = Check.cityOf(CITY);
        Check.weeks(x, "hour 3;");
        Check.refused(x, "weeks " + text, Check.weeks(x, text), 9);
        Check.due("fault of " + text, x.fault(0), kind);
        Check.due("place in " + text, x.fault(1), place);
        Check.refused(x, "the tape is empty", x.weeks(1), 1);
        Check.fine(x, "the old ones stay", x.live(0), 1);
        Check.due("the old ones stay", x.told(8), 3);
    }

    private static void fine(String text, int steps) {
        ExtraCaste x = Check.cityOf(CITY);
        Check.fine(x, "weeks " + text, Check.weeks(x, text), steps);
        Check.due("no fault", x.fault(0), 0);
        Check.due("no place", x.fault(1), -1);
    }

    private static String many(String one, int many) {
        StringBuilder b = new StringBuilder();
        for (int i = 0; i < many; i++) {
            b.append(one);
        }
        return b.toString();
    }

    private static void takesWeeks() {
        fine("", 0);
        fine("hour 1;hour 48;order e h;put h 1;put h 99;any;stop;", 7);
        fine("when is h 0;end;when is h 2;end;when stands e p;end;when over h;end;", 4);
        fine("when warned w<0;end;when warned w>9999;end;when warned w = 5;any;end;", 4);
        fine("loop 1;loop 99;when over h;any;end;end;end;", 4);
        fine(many("any;", 30), 30);
        fine(many("loop 1;", 3) + many("end;", 3), 3);
    }

    private static void takesFromTheTape() {
        ExtraCaste x = Check.cityOf(CITY);
        Check.feed(x, many("any;", 30) + many(" ", 181));
        Check.refused(x, "above 300", x.weeks(301), 1);
        Check.refused(x, "below 0", x.weeks(-1), 1);
        Check.fine(x, "300", x.weeks(300), 30);
        Check.feed(x, "any;");
        Check.refused(x, "more than there is", x.weeks(21), 1);
        Check.fine(x, "weeks", x.weeks(4), 1);
        Check.refused(x, "the tape is empty", x.weeks(4), 1);
    }

    private static void tellsFaults() {
        fault("any!", 1, 3);
        ExtraCaste x = Check.cityOf(CITY);
        Check.weeks(x, "loop 2;loop 3;");
        Check.fine(x, "behind a fault", Check.weeks(x, "any;"), 1);
        fault("hour 12345;", 1, 5);
        fault("any", 2, 3);
        fault("anyy;", 2, 0);
        fault("wage 3;", 2, 0);
        fault("any 3;", 2, 4);
        fault("end;", 2, 0);
        fault("loop 2;end;end;", 2, 11);
        fault("loop 2;", 2, 7);
        fault("loop 2;any; ", 2, 12);
        fault("loop 2;end", 2, 10);
        fault("loop 2;end end", 2, 11);
        fault("when ;", 2, 5);
        fault("when h;", 2, 5);
        fault("when hour;", 2, 5);
        fault("when is abcdefghi 1;", 2, 8);
        fault("when warned w;1;", 2, 13);
        fault("when warned w 1;", 2, 14);
        fault("order e;", 2, 7);
        fault("order at h;", 2, 6);
        fault("put h;", 2, 5);
        fault("order h h;", 3, 6);
        fault("order e e;", 3, 8);
        fault("put e 1;", 3, 4);
        fault("put x 1;", 3, 4);
        fault("when is w 1;", 3, 8);
        fault("when over p;", 3, 10);
        fault("when stands p p;", 3, 12);
        fault("when stands e e;", 3, 14);
        fault("when warned e<1;", 3, 12);
        fault("hour 0;", 4, 5);
        fault("hour 49;", 4, 5);
        fault("put h 0;", 4, 6);
        fault("put h 100;", 4, 6);
        fault("loop 0;end;", 4, 5);
        fault("loop 100;end;", 4, 5);
        fault("when is h 3;end;", 4, 10);
        fault(many("any;", 30) + "any;", 6, 120);
        fault(many("any;", 30) + "end;", 2, 120);
        fault(many("loop 1;", 3) + "loop", 7, 21);
        fault(many("loop 1;", 3) + "when over h;", 7, 21);
        fault(many("loop 1;", 3) + many("any;", 27) + "loop", 6, 129);
        fault("loop 1;when over h;loop 1;any;end;when over h;any;end;loop 1;loop 1;", 7, 61);
    }
}
