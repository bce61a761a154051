/** Promises 5 to 8: tray(), write(), read(), pour(). */
public final class TrayTest {
    public static void main(String[] args) {
        laysTrays();
        writesAndReads();
        pours();
        Check.end();
    }

    private static void laysTrays() {
        ExtraCaste x = new ExtraCaste();
        Check.refused(x, "tray -1", x.tray(-1, 0, 1), 1);
        Check.refused(x, "tray 4", x.tray(4, 0, 1), 1);
        Check.refused(x, "sort -1", x.tray(0, -1, 1), 1);
        Check.refused(x, "sort 4", x.tray(0, 4, 1), 1);
        Check.refused(x, "many -1", x.tray(0, 0, -1), 1);
        Check.refused(x, "many 61", x.tray(0, 0, 61), 1);
        Check.refused(x, "still missing", x.read(0, 0), 2);
        Check.fine(x, "tray of 60", x.tray(3, 3, 60));
        Check.fine(x, "last place", x.read(3, 59), 0);
        Check.refused(x, "place 60", x.read(3, 60), 3);
        Check.fine(x, "write", x.write(3, 59, 7));
        Check.fine(x, "write", x.write(3, 0, 7));
        Check.refused(x, "many 61 again", x.tray(3, 3, 61), 1);
        Check.fine(x, "stays", x.read(3, 59), 7);
        Check.fine(x, "tray anew", x.tray(3, 3, 60));
        Check.fine(x, "0s again", x.read(3, 59), 0);
        Check.fine(x, "0s again", x.read(3, 0), 0);
        Check.fine(x, "empty tray", x.tray(1, 0, 0));
        Check.refused(x, "no place 0", x.read(1, 0), 3);
    }

    private static void writesAndReads() {
        ExtraCaste x = new ExtraCaste();
        Check.refused(x, "write -1", x.write(-1, 0, 0), 1);
        Check.refused(x, "write 4", x.write(4, 0, 0), 1);
        Check.refused(x, "read -1", x.read(-1, 0), 1);
        Check.refused(x, "read 4", x.read(4, 0), 1);
        Check.refused(x, "write missing", x.write(0, -1, 0), 2);
        long v = 0x123456789abcdef0L;
        long[] cut = {(byte) v, (short) v, (int) v, v};
        for (int sort = 0; sort < 4; sort++) {
            x.tray(sort, sort, 2);
            Check.fine(x, "write sort " + sort, x.write(sort, 1, v));
            Check.fine(x, "read sort " + sort, x.read(sort, 1), cut[sort]);
            Check.fine(x, "place 0 stays", x.read(sort, 0), 0);
            Check.fine(x, "write -1", x.write(sort, 0, -1));
            Check.fine(x, "read -1", x.read(sort, 0), -1);
        }
        x.write(0, 0, 200);
        Check.fine(x, "200 of 8 bits", x.read(0, 0), -56);
        Check.refused(x, "write place 2", x.write(0, 2, 5), 3);
        Check.refused(x, "write place -1", x.write(0, -1, 5), 3);
        Check.refused(x, "read place 2", x.read(0, 2), 3);
        Check.refused(x, "read place -1", x.read(0, -1), 3);
    }

    private static ExtraCaste filled() {
        ExtraCaste x = new ExtraCaste();
        x.tray(0, 2, 5);
        x.tray(1, 2, 3);
        x.tray(2, 1, 5);
        for (int i = 0; i < 5; i++) {
            x.write(0, i, 10 + i);
        }
        return x;
    }

    private static void holds(ExtraCaste x, int tray, long... numbers) {
        for (int i = 0; i < numbers.length; i++) {
            Check.fine(x, "tray " + tray + " place " + i, x.read(tray, i), numbers[i]);
        }
    }

    private static void pours() {
        ExtraCaste x = filled();
        Check.fine(x, "pour", x.pour(0, 1, 1, 0, 2));
        holds(x, 1, 11, 12, 0);
        Check.fine(x, "pour upwards in itself", x.pour(0, 0, 0, 1, 4));
        holds(x, 0, 10, 10, 11, 12, 13);
        x = filled();
        Check.fine(x, "pour downwards in itself", x.pour(0, 1, 0, 0, 4));
        holds(x, 0, 11, 12, 13, 14, 14);
        Check.fine(x, "pour none at the end", x.pour(0, 5, 1, 3, 0));
        Check.refused(x, "from 4", x.pour(4, 0, 1, 0, 1), 1);
        Check.refused(x, "to -1", x.pour(0, 0, -1, 0, 1), 1);
        Check.refused(x, "place -1", x.pour(0, -1, 3, 0, 1), 1);
        Check.refused(x, "at -1", x.pour(0, 0, 3, -1, 1), 1);
        Check.refused(x, "many -1", x.pour(0, 0, 3, 0, -1), 1);
        Check.refused(x, "to missing", x.pour(2, 9, 3, 0, 1), 2);
        Check.refused(x, "from missing", x.pour(3, 0, 0, 0, 1), 2);
        Check.refused(x, "unlike, and too few", x.pour(0, 9, 2, 0, 1), 8);
        Check.refused(x, "too few to take", x.pour(0, 4, 1, 0, 2), 3);
        Check.refused(x, "too few places", x.pour(0, 0, 1, 2, 2), 3);
        Check.refused(x, "far beyond", x.pour(0, Integer.MAX_VALUE, 1, 0, Integer.MAX_VALUE), 3);
        holds(x, 1, 0, 0, 0);
    }
}
