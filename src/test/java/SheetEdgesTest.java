/** The boundary cases of part 4 of the terms and of promises 20 to 23, each sentence by itself. */
public final class SheetEdgesTest {
    private static final int MIN = Integer.MIN_VALUE;
    private static final int MAX = Integer.MAX_VALUE;

    public static void main(String[] args) {
        widths();
        fourSheets();
        sheetsAndRowsThatAreNone();
        lastSheetAndRow();
        numbersOfARow();
        refusedRowDoesNothing();
        newRowIsAllZero();
        rowsAreEachTheirOwn();
        missingAtFirst();
        places();
        refusedSetDoesNothing();
        lowestBits();
        signBits();
        deliveredKinds();
        deliveredVintages();
        deliveredPrices();
        deliveredCells();
        deliveredBottles();
        cellMustBeEmpty();
        twoFivesForOneCell();
        numberThatLacks();
        fullRow();
        oneLotTooMany();
        firstThatCannotEndsIt();
        rowStaysAsItIs();
        Checks.end();
    }

    private static WineCellar sheets(int n) {
        WineCellar x = new WineCellar();
        x.kind(0, 1, 0, 0, 60);
        for (int i = 0; i < n; i++) {
            x.sheet(i % 3);
        }
        return x;
    }

    /** "numbers of 16 (WIDTH 0), 32 (1) or 64 bits (2)"; "IllegalArgumentException: no such WIDTH." */
    private static void widths() {
        for (int width : new int[] {-1, 3, 16, 32, 64, MIN, MAX}) {
            Checks.refused("sheet(" + width + ")", WineCellar::new, Checks.ARGUMENT, x -> x.sheet(width));
        }
        for (int width = 0; width < 3; width++) {
            Checks.due("sheet(" + width + ")", new WineCellar().sheet(width), 0);
        }
    }

    /** "SHEETS 0 to 3"; "its number; -1: there are 4" */
    private static void fourSheets() {
        for (int n = 0; n < 4; n++) {
            Checks.due("a sheet where there are " + n, sheets(n).sheet(1), n);
        }
        Checks.refused("a sheet where there are 4", () -> sheets(4), -1, x -> x.sheet(1));
        Checks.refused("a sheet of no width where there are 4", () -> sheets(4), Checks.ARGUMENT, x -> x.sheet(3));
    }

    /** "IndexOutOfBoundsException: no such SHEET or ROW (so below)" */
    private static void sheetsAndRowsThatAreNone() {
        int[][] wrong = {{-1, 0}, {2, 0}, {3, 0}, {4, 0}, {MIN, 0}, {MAX, 0}, {0, -1}, {0, 10}, {1, 10}, {0, MIN}, {0, MAX},
            {-1, -1}, {2, 10}};
        for (int[] w : wrong) {
            String told = "(" + w[0] + ", " + w[1] + ")";
            Checks.refused("row" + told, () -> sheets(2), Checks.INDEX, x -> x.row(w[0], w[1], 5));
            Checks.refused("row" + told + " too long", () -> sheets(2), Checks.INDEX, x -> x.row(w[0], w[1], 41));
            Checks.refused("set" + told, () -> sheets(2), Checks.INDEX, x -> x.set(w[0], w[1], 0, 1));
            Checks.refused("deliver" + told, () -> sheets(2), Checks.INDEX, x -> x.deliver(w[0], w[1]));
        }
        Checks.refused("row(0, 0) without sheets", () -> sheets(0), Checks.INDEX, x -> x.row(0, 0, 5));
        Checks.refused("set(0, 0) without sheets", () -> sheets(0), Checks.INDEX, x -> x.set(0, 0, 0, 1));
        Checks.refused("deliver(0, 0) without sheets", () -> sheets(0), Checks.INDEX, x -> x.deliver(0, 0));
        Checks.dueThrow("row(4, 0) of 4 sheets", Checks.INDEX, () -> sheets(4).row(4, 0, 5));
    }

    /** "SHEETS 0 to 3 each have ROWS 0 to 9" */
    private static void lastSheetAndRow() {
        for (int sheet : new int[] {0, 3}) {
            for (int k : new int[] {0, 9}) {
                WineCellar x = sheets(4);
                Checks.fill(x, sheet, k, 0, 2000, 10, 5, 3);
                Checks.due("deliver(" + sheet + ", " + k + ")", x.deliver(sheet, k), 1);
            }
        }
    }

    private static WineCellar filled() {
        WineCellar x = sheets(1);
        Checks.fill(x, 0, 0, 0, 2000, 10, 5, 3);
        return x;
    }

    /** "n; -1, doing nothing, if n is below 0 or above 40" */
    private static void numbersOfARow() {
        for (int n : new int[] {-1, 41, MIN, MAX}) {
            Checks.refused("row(0, 0, " + n + ")", () -> sheets(1), -1, x -> x.row(0, 0, n));
        }
        for (int n : new int[] {0, 1, 39, 40}) {
            WineCellar x = sheets(1);
            Checks.due("row(0, 0, " + n + ")", x.row(0, 0, n), n);
            Checks.due("its last place", n == 0 ? 1 : x.set(0, 0, n - 1, 1), 1);
            Checks.due("the place behind it", x.set(0, 0, n, 1), -2);
        }
    }

    private static void refusedRowDoesNothing() {
        for (int n : new int[] {-1, 41}) {
            WineCellar missing = sheets(1);
            missing.row(0, 0, n);
            Checks.due("still missing behind row(0, 0, " + n + ")", missing.set(0, 0, 0, 1), -1);
            WineCellar x = filled();
            x.row(0, 0, n);
            Checks.due("as long as before", x.set(0, 0, 5, 1), -2);
            Checks.due("as full as before", x.deliver(0, 0), 1);
            Checks.due("the bottles", x.cell(5, 1), 3);
        }
    }

    /** "A ROW of n numbers, all 0, comes in the place of ROW k" */
    private static void newRowIsAllZero() {
        for (int put = 0; put < 5; put++) {
            WineCellar x = sheets(1);
            Checks.fill(x, 0, 0, 0, 2000, 10, 5, 3);
            x.row(0, 0, 5);
            long[] five = {0, 2000, 10, 5, 3};
            for (int i = 0; i < 5; i++) {
                if (i != put) {
                    x.set(0, 0, i, five[i]);
                }
            }
            // 0 stands for the first kind and the first cell; it is no vintage, price or number of bottles.
            Checks.due("all told but place " + put, x.deliver(0, 0), put == 0 || put == 3 ? 1 : 0);
            Checks.due("bottles in cell 0", x.cell(0, 1), put == 3 ? 3 : 0);
        }
        WineCellar x = filled();
        Checks.due("a shorter row", x.row(0, 0, 4), 4);
        Checks.due("has no fifth place", x.set(0, 0, 4, 1), -2);
        Checks.due("and brings nothing", x.deliver(0, 0), 0);
        Checks.due("a row of five again", x.row(0, 0, 5), 5);
        Checks.due("is all 0", x.deliver(0, 0), 0);
        Checks.due("an empty row", x.row(0, 0, 0), 0);
        Checks.due("has no place", x.set(0, 0, 0, 1), -2);
        Checks.due("and brings nothing", x.deliver(0, 0), 0);
    }

    private static void rowsAreEachTheirOwn() {
        WineCellar x = sheets(2);
        Checks.fill(x, 0, 3, 0, 2000, 10, 5, 3);
        Checks.due("the row ahead", x.deliver(0, 2), -1);
        Checks.due("the row behind", x.deliver(0, 4), -1);
        Checks.due("the same row of another sheet", x.deliver(1, 3), -1);
        Checks.fill(x, 1, 3, 0, 2000, 20, 6, 4);
        Checks.fill(x, 0, 4, 0, 2000, 30, 7, 5);
        Checks.due("the first row", x.deliver(0, 3), 1);
        Checks.due("its price", x.told(0, 2), 10);
        Checks.due("the other sheet's", x.deliver(1, 3), 1);
        Checks.due("its price", x.told(1, 2), 20);
    }

    /** "missing at first"; "-1: the ROW is missing"; "how many LOTS came; -1: it is missing" */
    private static void missingAtFirst() {
        for (int k = 0; k < 10; k++) {
            int row = k;
            Checks.refused("set in row " + k, () -> sheets(1), -1, x -> x.set(0, row, 0, 1));
            Checks.refused("deliver of row " + k, () -> sheets(1), -1, x -> x.deliver(0, row));
        }
        Checks.due("missing comes ahead of the place", sheets(1).set(0, 0, -1, 1), -1);
        Checks.due("missing comes ahead of the place", sheets(1).set(0, 0, 40, 1), -1);
        WineCellar x = sheets(1);
        x.row(0, 0, 0);
        Checks.due("an empty row is not missing", x.deliver(0, 0), 0);
        Checks.due("an empty row is not missing", x.set(0, 0, 0, 1), -2);
    }

    /** "1; .. -2: there is no such place" */
    private static void places() {
        for (int i : new int[] {-1, 5, 39, 40, MIN, MAX}) {
            Checks.refused("set(0, 0, " + i + ", 1)", SheetEdgesTest::filled, -2, x -> x.set(0, 0, i, 1));
        }
        Checks.due("place 0", filled().set(0, 0, 0, 1), 1);
        Checks.due("place 4", filled().set(0, 0, 4, 1), 1);
    }

    private static void refusedSetDoesNothing() {
        WineCellar x = filled();
        x.set(0, 0, -1, 99);
        x.set(0, 0, 5, 99);
        Checks.due("delivered", x.deliver(0, 0), 1);
        Checks.due("kind", x.told(0, 0), 0);
        Checks.due("bottles", x.told(0, 5), 3);
    }

    /** "becomes v (its lowest bits)": those above the width go, the highest within it stays. */
    private static void lowestBits() {
        long[] five = {0, 2000, 10, 5, 3};
        for (int width = 0; width < 3; width++) {
            for (int bit = 14; bit < 64; bit++) {
                for (int i = 0; i < 5; i++) {
                    WineCellar x = new WineCellar();
                    x.kind(0, 1, 0, 0, 60);
                    x.sheet(width);
                    Checks.fill(x, 0, 0, five);
                    x.set(0, 0, i, five[i] | 1L << bit);
                    Checks.due("bit " + bit + " at place " + i + " in width " + width, x.deliver(0, 0),
                            bit >= 16 << width ? 1 : 0);
                }
            }
        }
    }

    /** Numbers below 0 have all the bits above them set: cut or not, they stay below 0. */
    private static void signBits() {
        for (int width = 0; width < 3; width++) {
            WineCellar x = new WineCellar();
            x.kind(0, 1, 0, 0, 60);
            x.sheet(width);
            Checks.fill(x, 0, 0, 0, 2000, 10, 5, -1);
            Checks.due("-1 bottles in width " + width, x.deliver(0, 0), 0);
            x.set(0, 0, 4, 3);
            x.set(0, 0, 0, Long.MIN_VALUE);
            Checks.due("the least number in width " + width, x.deliver(0, 0), width == 2 ? 0 : 1);
            x.set(0, 0, 0, Long.MAX_VALUE);
            Checks.due("the greatest number in width " + width, x.deliver(0, 0), 0);
        }
    }

    /** A five of two kinds; whether it comes, and if not, that nothing changes. */
    private static void five(long kind, long vintage, long price, long cell, long bottles, boolean comes) {
        String told = "five " + kind + ", " + vintage + ", " + price + ", " + cell + ", " + bottles;
        if (!comes) {
            Checks.refused(told, () -> withFive(kind, vintage, price, cell, bottles), 0, x -> x.deliver(0, 0));
            return;
        }
        WineCellar x = withFive(kind, vintage, price, cell, bottles);
        Checks.due(told, x.deliver(0, 0), 1);
        long[] want = {kind, vintage, price, vintage + 3, vintage + 33, bottles, 0, 0};
        for (int what = 0; what < 8; what++) {
            Checks.due(told + ": told(1, " + what + ")", x.told(1, what), want[what]);
        }
        Checks.due(told + ": lot in the cell", x.cell((int) cell, 0), 1);
        Checks.due(told + ": bottles in the cell", x.cell((int) cell, 1), bottles);
        Checks.due(told + ": lots", x.count(10), 2);
        Checks.due(told + ": bought", x.count(0), 2 + bottles);
        Checks.due(told + ": in cells", x.count(2), 2 + bottles);
    }

    private static WineCellar withFive(long... five) {
        WineCellar x = new WineCellar();
        x.kind(0, 1, 0, 3, 33);
        x.kind(2, 1, 0, 3, 33);
        x.lot(0, 1990, 7);
        x.put(10, 0, 2);
        x.sheet(2);
        Checks.fill(x, 0, 0, five);
        return x;
    }

    /** "KIND": one that there is. */
    private static void deliveredKinds() {
        five(-1, 2000, 10, 5, 3, false);
        five(0, 2000, 10, 5, 3, true);
        five(1, 2000, 10, 5, 3, true);
        five(2, 2000, 10, 5, 3, false);
        five(1L << 32, 2000, 10, 5, 3, false);
        five(Long.MAX_VALUE, 2000, 10, 5, 3, false);
        WineCellar x = new WineCellar();
        x.sheet(0);
        Checks.fill(x, 0, 0, 0, 2000, 10, 5, 3);
        Checks.due("a five without kinds", x.deliver(0, 0), 0);
    }

    private static void deliveredVintages() {
        five(0, 1899, 10, 5, 3, false);
        five(0, 1900, 10, 5, 3, true);
        five(0, 2100, 10, 5, 3, true);
        five(0, 2101, 10, 5, 3, false);
        five(0, (1L << 32) + 2000, 10, 5, 3, false);
    }

    private static void deliveredPrices() {
        five(0, 2000, 0, 5, 3, false);
        five(0, 2000, 1, 5, 3, true);
        five(0, 2000, 10000, 5, 3, true);
        five(0, 2000, 10001, 5, 3, false);
        five(0, 2000, -10, 5, 3, false);
        five(0, 2000, (1L << 32) + 10, 5, 3, false);
    }

    private static void deliveredCells() {
        five(0, 2000, 10, -1, 3, false);
        five(0, 2000, 10, 0, 3, true);
        five(0, 2000, 10, 29, 3, true);
        five(0, 2000, 10, 30, 3, false);
        five(0, 2000, 10, (1L << 32) + 5, 3, false);
        five(0, 2000, 10, Long.MIN_VALUE, 3, false);
    }

    /** "BOTTLES (1 to 12)" */
    private static void deliveredBottles() {
        five(0, 2000, 10, 5, 0, false);
        five(0, 2000, 10, 5, 1, true);
        five(0, 2000, 10, 5, 12, true);
        five(0, 2000, 10, 5, 13, false);
        five(0, 2000, 10, 5, -1, false);
        five(0, 2000, 10, 5, (1L << 32) + 3, false);
    }

    /** "its BOTTLES lie in the CELL, which must be empty" */
    private static void cellMustBeEmpty() {
        five(0, 2000, 10, 10, 3, false);
        WineCellar x = withFive(0, 2000, 10, 10, 3);
        x.sell(10);
        Checks.due("one bottle still lies there", x.deliver(0, 0), 0);
        x.sell(10);
        Checks.due("none lies there", x.deliver(0, 0), 1);
        Checks.due("the cell's lot", x.cell(10, 0), 1);
        Checks.due("the cell's bottles", x.cell(10, 1), 3);
    }

    /** "one by one": the first five's bottles lie there when the second comes. */
    private static void twoFivesForOneCell() {
        WineCellar x = withFive(0, 2000, 10, 5, 3, 0, 2000, 10, 5, 1, 0, 2000, 10, 6, 1);
        Checks.due("delivered", x.deliver(0, 0), 1);
        Checks.due("cell 5", x.cell(5, 1), 3);
        Checks.due("cell 6", x.cell(6, 1), 0);
    }

    /** "of which a number lacks" */
    private static void numberThatLacks() {
        long[] numbers = {0, 2000, 10, 5, 3, 1, 2001, 11, 6, 4, 0, 2002, 12, 7, 5};
        for (int n = 0; n <= numbers.length; n++) {
            long[] row = java.util.Arrays.copyOf(numbers, n);
            WineCellar x = withFive(row);
            Checks.due("delivered of " + n + " numbers", x.deliver(0, 0), n / 5);
            Checks.due("lots of " + n + " numbers", x.count(10), 1 + n / 5);
        }
    }

    private static long[] fives(int n) {
        long[] numbers = new long[5 * n];
        for (int i = 0; i < n; i++) {
            System.arraycopy(new long[] {1, 1990 + i, 100 + i, 11 + i, 1 + i}, 0, numbers, 5 * i, 5);
        }
        return numbers;
    }

    /** Eight fives are a full row. */
    private static void fullRow() {
        WineCellar x = withFive(fives(8));
        Checks.due("eight fives", x.deliver(0, 0), 8);
        for (int i = 0; i < 8; i++) {
            Checks.due("lot " + (1 + i), x.cell(11 + i, 0), 1 + i);
            Checks.due("its bottles", x.cell(11 + i, 1), 1 + i);
            Checks.due("its price", x.told(1 + i, 2), 100 + i);
        }
    }

    private static WineCellar withLots(int lots) {
        WineCellar x = withFive(fives(3));
        for (int i = 1; i < lots; i++) {
            x.lot(0, 2000, 10);
        }
        return x;
    }

    /** "or that is one LOT too many, ends it" */
    private static void oneLotTooMany() {
        int[][] want = {{57, 3}, {58, 2}, {59, 1}, {60, 0}};
        for (int[] row : want) {
            WineCellar x = withLots(row[0]);
            Checks.due("delivered where there are " + row[0] + " lots", x.deliver(0, 0), row[1]);
            Checks.due("lots then", x.count(10), 60);
            for (int i = 0; i < 3; i++) {
                Checks.due("cell " + (11 + i), x.cell(11 + i, 1), i < row[1] ? 1 + i : 0);
            }
        }
        Checks.refused("delivered where there are 60 lots", () -> withLots(60), 0, x -> x.deliver(0, 0));
    }

    /** "the first five that can't .. ends it": those behind it do not come. */
    private static void firstThatCannotEndsIt() {
        for (int bad = 0; bad < 3; bad++) {
            for (int place = 0; place < 5; place++) {
                long[] numbers = fives(3);
                numbers[5 * bad + place] = -1;
                WineCellar x = withFive(numbers);
                Checks.due("delivered with a bad place " + (5 * bad + place), x.deliver(0, 0), bad);
                Checks.due("lots", x.count(10), 1 + bad);
                Checks.due("bought", x.count(0), 2 + bad * (bad + 1) / 2);
                Checks.due("bottles in cells", x.count(2), 2 + bad * (bad + 1) / 2);
            }
        }
    }

    private static void rowStaysAsItIs() {
        WineCellar x = withFive(fives(2));
        Checks.due("delivered", x.deliver(0, 0), 2);
        Checks.due("its first cell is not empty now", x.deliver(0, 0), 0);
        x.counted(11, 0);
        Checks.due("its first cell is empty again", x.deliver(0, 0), 1);
        x.counted(11, 0);
        x.counted(12, 0);
        Checks.due("both cells are empty again", x.deliver(0, 0), 2);
        Checks.due("lots", x.count(10), 6);
    }
}
