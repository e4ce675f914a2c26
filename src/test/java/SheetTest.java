/** Promises 20 to 23: sheet, row, set, deliver. */
public final class SheetTest {
    public static void main(String[] args) {
        sheets();
        rows();
        sets();
        lowestBits();
        delivery();
        fivesThatCannot();
        cellsMustBeEmpty();
        lotsTooMany();
        wrongPlaces();
        Checks.end();
    }

    private static void fill(WineCellar x, int sheet, int k, long... numbers) {
        Checks.due("row of " + numbers.length, x.row(sheet, k, numbers.length), numbers.length);
        for (int i = 0; i < numbers.length; i++) {
            Checks.due("set place " + i, x.set(sheet, k, i, numbers[i]), 1);
        }
    }

    private static void sheets() {
        WineCellar x = new WineCellar();
        Checks.dueThrow("sheet(-1)", Checks.ARGUMENT, () -> x.sheet(-1));
        Checks.dueThrow("sheet(3)", Checks.ARGUMENT, () -> x.sheet(3));
        int[] widths = {2, 0, 1, 2};
        for (int i = 0; i < widths.length; i++) {
            Checks.due("sheet " + i, x.sheet(widths[i]), i);
        }
        Checks.due("a fifth sheet", x.sheet(0), -1);
        Checks.dueThrow("a fifth sheet of no width", Checks.ARGUMENT, () -> x.sheet(3));
        Checks.due("sheets", x.count(12), 4);
        Checks.due("the last one's last row", x.row(3, 9, 40), 40);
    }

    private static void rows() {
        WineCellar x = new WineCellar();
        x.kind(0, 1, 0, 0, 60);
        x.sheet(1);
        Checks.due("missing", x.set(0, 0, 0, 1), -1);
        Checks.due("missing, no such place", x.set(0, 0, -1, 1), -1);
        Checks.due("missing", x.deliver(0, 0), -1);
        Checks.due("row(0, 0, -1)", x.row(0, 0, -1), -1);
        Checks.due("row(0, 0, 41)", x.row(0, 0, 41), -1);
        Checks.due("row(0, 0, MAX)", x.row(0, 0, Integer.MAX_VALUE), -1);
        Checks.due("still missing", x.deliver(0, 0), -1);
        Checks.due("row(0, 0, 0)", x.row(0, 0, 0), 0);
        Checks.due("no place in it", x.set(0, 0, 0, 1), -2);
        Checks.due("nothing in it", x.deliver(0, 0), 0);
        fill(x, 0, 0, 0, 2000, 10, 5, 1);
        Checks.due("row(0, 0, 41) does nothing", x.row(0, 0, 41), -1);
        Checks.due("row(0, 0, -1) does nothing", x.row(0, 0, -1), -1);
        Checks.due("delivered", x.deliver(0, 0), 1);
        Checks.due("a new row is all 0", x.row(0, 0, 5), 5);
        x.set(0, 0, 3, 6);
        x.set(0, 0, 4, 1);
        Checks.due("0 is no vintage", x.deliver(0, 0), 0);
        x.set(0, 0, 1, 2000);
        Checks.due("0 is no price", x.deliver(0, 0), 0);
        x.set(0, 0, 2, 10);
        Checks.due("all told anew", x.deliver(0, 0), 1);
        Checks.due("another row is missing", x.deliver(0, 1), -1);
        x.row(0, 0, 40);
        x.row(0, 0, 4);
        Checks.due("a shorter row has no fifth place", x.set(0, 0, 4, 1), -2);
    }

    private static void sets() {
        WineCellar x = new WineCellar();
        x.sheet(0);
        x.sheet(2);
        x.row(0, 3, 40);
        Checks.due("place 0", x.set(0, 3, 0, Long.MAX_VALUE), 1);
        Checks.due("place 39", x.set(0, 3, 39, Long.MIN_VALUE), 1);
        Checks.due("place 40", x.set(0, 3, 40, 1), -2);
        Checks.due("place -1", x.set(0, 3, -1, 1), -2);
        Checks.due("place MAX", x.set(0, 3, Integer.MAX_VALUE, 1), -2);
        Checks.due("place MIN", x.set(0, 3, Integer.MIN_VALUE, 1), -2);
        Checks.due("another row", x.set(0, 4, 0, 1), -1);
        Checks.due("the same row of another sheet", x.set(1, 3, 0, 1), -1);
    }

    /** Each number stands with bits above the sheet's width: they must go, and those below stay. */
    private static void lowestBits() {
        for (int width = 0; width < 3; width++) {
            int bits = 16 << width;
            long above = bits == 64 ? 0 : 1L << bits;
            WineCellar x = new WineCellar();
            x.kind(0, 1, 0, 0, 60);
            x.sheet(width);
            fill(x, 0, 0, above, above + 2000, 10 - above, 7 + 3 * above, 2 - above);
            Checks.due("delivered in width " + width, x.deliver(0, 0), 1);
            Checks.due("the price", x.told(0, 2), 10);
            Checks.due("the cell", x.cell(7, 1), 2);
            for (int i = 0; i < 5; i++) {
                fill(x, 0, 0, 0, 2000, 10, 8, 2);
                long[] numbers = {0, 2000, 10, 8, 2};
                x.set(0, 0, i, numbers[i] + (1L << (bits - 1)));
                Checks.due("the highest bit at " + i + " in width " + width, x.deliver(0, 0), 0);
                if (width > 0) {
                    x.set(0, 0, i, numbers[i] + (1L << (bits / 2)));
                    Checks.due("a higher bit at " + i + " in width " + width, x.deliver(0, 0), 0);
                }
            }
        }
    }

    private static void delivery() {
        WineCellar x = new WineCellar();
        x.kind(0, 1, 0, 0, 60);
        x.kind(2, 1, 0, 4, 9);
        x.lot(0, 2000, 1);
        x.sheet(0);
        fill(x, 0, 9, 1, 1900, 1, 29, 12, 0, 2100, 10000, 0, 1, 0, 2000, 5, 3, 4, 0, 2000, 5, 4);
        Checks.due("three come, the fourth lacks a number", x.deliver(0, 9), 3);
        Checks.due("lots", x.count(10), 4);
        Checks.due("kind", x.told(1, 0), 1);
        Checks.due("vintage", x.told(1, 1), 1900);
        Checks.due("price", x.told(1, 2), 1);
        Checks.due("FROM", x.told(1, 3), 1904);
        Checks.due("UNTIL", x.told(1, 4), 1909);
        Checks.due("bottles", x.told(1, 5), 12);
        Checks.due("lot in cell 29", x.cell(29, 0), 1);
        Checks.due("lot in cell 0", x.cell(0, 0), 2);
        Checks.due("price", x.told(2, 2), 10000);
        Checks.due("lot in cell 3", x.cell(3, 0), 3);
        Checks.due("bought", x.count(0), 17);
        Checks.due("in cells", x.count(2), 17);
        Checks.due("the row is as before: its first cell is not empty", x.deliver(0, 9), 0);
        fill(x, 0, 1, 0, 2000, 1, 5, 1, 0, 2000, 1, 6, 1, 0, 2000, 1, 7, 1, 0, 2000, 1, 8, 1,
                0, 2000, 1, 9, 1, 0, 2000, 1, 10, 1, 0, 2000, 1, 11, 1, 0, 2000, 1, 12, 1);
        Checks.due("forty numbers", x.deliver(0, 1), 8);
    }

    /** A good five, one that can't, a good one: the first alone comes. */
    private static void fivesThatCannot() {
        long[][] bad = {
            {-1, 2000, 10, 1, 1}, {1, 2000, 10, 1, 1}, {0, 1899, 10, 1, 1}, {0, 2101, 10, 1, 1}, {0, 2000, 0, 1, 1},
            {0, 2000, 10001, 1, 1}, {0, 2000, -5, 1, 1}, {0, 2000, 10, -1, 1}, {0, 2000, 10, 30, 1},
            {0, 2000, 10, 1, 0}, {0, 2000, 10, 1, 13}, {0, 2000, 10, 1, -1}, {0, 2000, 10, 0, 1},
        };
        for (long[] b : bad) {
            WineCellar x = new WineCellar();
            x.kind(0, 1, 0, 0, 60);
            x.sheet(2);
            fill(x, 0, 0, 0, 2000, 10, 0, 3, b[0], b[1], b[2], b[3], b[4], 0, 2000, 10, 2, 3);
            String told = java.util.Arrays.toString(b);
            Checks.due("delivered with " + told, x.deliver(0, 0), 1);
            Checks.due("lots with " + told, x.count(10), 1);
            Checks.due("bought with " + told, x.count(0), 3);
            Checks.due("in cells with " + told, x.count(2), 3);
        }
        WineCellar x = new WineCellar();
        x.sheet(2);
        fill(x, 0, 0, 0, 2000, 10, 0, 3);
        Checks.due("delivered without a kind", x.deliver(0, 0), 0);
    }

    private static void cellsMustBeEmpty() {
        WineCellar x = new WineCellar();
        x.kind(0, 1, 0, 0, 60);
        x.lot(0, 2000, 10);
        x.put(5, 0, 1);
        x.sheet(1);
        fill(x, 0, 0, 0, 2000, 10, 5, 3);
        Checks.due("delivered on a bottle", x.deliver(0, 0), 0);
        x.sell(5);
        Checks.due("delivered when it is sold", x.deliver(0, 0), 1);
        Checks.due("the cell's lot", x.cell(5, 0), 1);
    }

    private static void lotsTooMany() {
        WineCellar x = new WineCellar();
        x.kind(0, 1, 0, 0, 60);
        for (int i = 0; i < 59; i++) {
            x.lot(0, 2000, 10);
        }
        x.sheet(1);
        fill(x, 0, 0, 0, 2000, 10, 5, 3, 0, 2000, 10, 6, 3);
        Checks.due("one more lot fits", x.deliver(0, 0), 1);
        Checks.due("lots", x.count(10), 60);
        Checks.due("bottles", x.count(2), 3);
        x.counted(5, 0);
        Checks.due("none fits", x.deliver(0, 0), 0);
    }

    private static void wrongPlaces() {
        WineCellar x = new WineCellar();
        x.sheet(0);
        int[][] wrong = {{-1, 0}, {1, 0}, {0, -1}, {0, 10}, {4, 0}, {Integer.MAX_VALUE, 0}, {0, Integer.MIN_VALUE}};
        for (int[] w : wrong) {
            String told = "(" + w[0] + ", " + w[1] + ", ..)";
            Checks.dueThrow("row" + told, Checks.INDEX, () -> x.row(w[0], w[1], 1));
            Checks.dueThrow("row" + told + " too long", Checks.INDEX, () -> x.row(w[0], w[1], 41));
            Checks.dueThrow("set" + told, Checks.INDEX, () -> x.set(w[0], w[1], 0, 1));
            Checks.dueThrow("deliver" + told, Checks.INDEX, () -> x.deliver(w[0], w[1]));
        }
    }
}
