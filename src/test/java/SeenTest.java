/** Promises 44 to 47: explained(), sure(), laws(), lawFirst(). */
public final class SeenTest {
    private static final String CITY = "corner p;corner q;extra e at p;happening a at p hour 1 great 1;"
        + "happening b at p hour 2 great 2;happening c at p hour 3 great 3;happening d at q hour 4 great 4;";

    public static void main(String[] args) {
        explains();
        refusesTrays();
        laws();
        refusesLaws();
        Check.end();
    }

    private static void fill(ExtraCaste x, int tray, int sort, long... numbers) {
        x.tray(tray, sort, numbers.length);
        for (int i = 0; i < numbers.length; i++) {
            x.write(tray, i, numbers[i]);
        }
    }

    private static void explains() {
        ExtraCaste x = Check.cityOf(CITY);
        fill(x, 0, 0, 3, 4, -1);
        Check.fine(x, "a b d, c d", x.explained(0), 2);
        Check.fine(x, "d", x.sure(0), 8);
        fill(x, 0, 3, 0, 0);
        Check.fine(x, "none of them", x.explained(0), 1);
        Check.fine(x, "none of them", x.sure(0), 0);
        fill(x, 0, 1, 5, 0);
        Check.fine(x, "b c", x.sure(0), 6);
        fill(x, 0, 1, 6, 4);
        Check.fine(x, "all of them", x.explained(0), 1);
        Check.fine(x, "all of them", x.sure(0), 15);
        fill(x, 0, 1, 99, 0);
        Check.fine(x, "by no set", x.explained(0), 0);
        Check.refused(x, "by no set", x.sure(0), 6);
        x.hour(2);
        fill(x, 0, 1, 3, 0);
        Check.fine(x, "a happened", x.explained(0), 1);
        Check.fine(x, "c", x.sure(0), 4);
        x.raise(1, 3);
        Check.fine(x, "b or c", x.explained(0), 2);
        Check.fine(x, "neither for sure", x.sure(0), 0);
    }

    private static void refusesTrays() {
        ExtraCaste x = Check.cityOf(CITY);
        Check.refused(x, "tray 4", x.explained(4), 1);
        Check.refused(x, "tray -1", x.sure(-1), 1);
        Check.refused(x, "tray -1", x.explained(-1), 1);
        Check.refused(x, "tray 4", x.sure(4), 1);
        Check.refused(x, "missing", x.explained(0), 2);
        Check.refused(x, "missing", x.sure(0), 2);
        fill(x, 0, 0, -1);
        Check.refused(x, "too few", x.explained(0), 3);
        Check.refused(x, "too few", x.sure(0), 3);
        fill(x, 0, 0, 0, -1);
        Check.refused(x, "below 0", x.explained(0), 5);
        Check.refused(x, "below 0", x.sure(0), 5);
        fill(x, 0, 0, 100, 0);
        Check.refused(x, "above 99", x.explained(0), 5);
        Check.refused(x, "above 99", x.sure(0), 5);
    }

    private static void laws() {
        ExtraCaste x = new ExtraCaste();
        // Of GREAT 3 two were too few, three enough: 2 < 3a / b <= 3.
        fill(x, 0, 0, 3, 2, 0, 3, 3, 1);
        Check.fine(x, "first", x.lawFirst(0, 2), 11);
        // Of GREAT 3 one was enough, and 1 of GREAT 4 not: 3a <= b, 4a > b.
        fill(x, 0, 0, 3, 1, 1, 4, 1, 0, 1, 99, 0);
        Check.fine(x, "1 by 3, 2 by 6, 2 by 7, 3 by 9", x.laws(0, 2), 4);
        Check.fine(x, "first", x.lawFirst(0, 2), 13);
        Check.fine(x, "none with the third", x.laws(0, 3), 0);
        Check.refused(x, "none with the third", x.lawFirst(0, 3), 6);
        Check.fine(x, "all", x.laws(0, 0), 81);
        Check.fine(x, "first of all", x.lawFirst(0, 0), 11);
        fill(x, 0, 0, 1, 8, 0, 1, 9, 1);
        Check.fine(x, "9 by 1", x.laws(0, 2), 1);
        Check.fine(x, "9 by 1", x.lawFirst(0, 2), 91);
        fill(x, 0, 0, 1, 9, 0, 1, 10, 1);
        Check.fine(x, "10 by 1 is none", x.laws(0, 2), 0);
        Check.refused(x, "10 by 1 is none", x.lawFirst(0, 2), 6);
        fill(x, 0, 0, 1, 0, 1);
        Check.fine(x, "nobody is never enough", x.laws(0, 1), 0);
        long[] most = new long[60];
        for (int i = 0; i < 20; i++) {
            most[3 * i] = 4;
            most[3 * i + 1] = 99;
            most[3 * i + 2] = 1;
        }
        fill(x, 1, 3, most);
        Check.fine(x, "twenty", x.laws(1, 20), 81);
    }

    private static void refusesLaws() {
        ExtraCaste x = new ExtraCaste();
        Check.refused(x, "tray 4", x.laws(4, 0), 1);
        Check.refused(x, "tray -1", x.lawFirst(-1, 0), 1);
        Check.refused(x, "n -1", x.laws(0, -1), 1);
        Check.refused(x, "n 21", x.laws(0, 21), 1);
        Check.refused(x, "n -1", x.lawFirst(0, -1), 1);
        Check.refused(x, "n 21", x.lawFirst(0, 21), 1);
        Check.refused(x, "missing", x.laws(0, 0), 2);
        Check.refused(x, "missing", x.lawFirst(0, 0), 2);
        fill(x, 0, 0, 9, 9);
        Check.refused(x, "too few", x.laws(0, 1), 3);
        Check.refused(x, "too few", x.lawFirst(0, 1), 3);
        long[][] wrong = {{0, 1, 1}, {5, 1, 1}, {1, -1, 1}, {1, 100, 1}, {1, 1, 2}, {1, 1, -1}};
        for (long[] three : wrong) {
            fill(x, 0, 0, three);
            Check.refused(x, "can't be", x.laws(0, 1), 5);
            Check.refused(x, "can't be", x.lawFirst(0, 1), 5);
            Check.fine(x, "not asked", x.laws(0, 0), 81);
        }
    }
}
