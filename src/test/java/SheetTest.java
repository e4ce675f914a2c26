/** Promises 20 to 23: sheet, row, set, deliver. */
public final class SheetTest {
    public static void main(String[] args) {
        rows();
        delivery();
        Checks.end();
    }

    private static void rows() {
        WineCellar x = new WineCellar();
        x.kind(0, 1, 0, 0, 60);
        x.sheet(1);
        Checks.due("missing", x.set(0, 0, 0, 1), -1);
        Checks.due("missing, no such place", x.set(0, 0, -1, 1), -1);
        Checks.due("missing", x.deliver(0, 0), -1);
        Checks.due("row(0, 0, -1)", x.row(0, 0, -1), -1);
        Checks.due("row(0, 0, 41)", x.row(0, 0, 41), -1);
        Checks.due("row(0, 0, MAX)", x.row(0, 0, Integer.MAX_VALUE), -1);
        Checks.due("still missing", x.deliver(0, 0), -1);
        Checks.due("row(0, 0, 0)", x.row(0, 0, 0), 0);
        Checks.due("no place in it", x.set(0, 0, 0, 1), -2);
        Checks.due("nothing in it", x.deliver(0, 0), 0);
        Checks.fill(x, 0, 0, 0, 2000, 10, 5, 1);
        Checks.due("row(0, 0, 41) does nothing", x.row(0, 0, 41), -1);
        Checks.due("row(0, 0, -1) does nothing", x.row(0, 0, -1), -1);
        Checks.due("delivered", x.deliver(0, 0), 1);
        Checks.due("a new row is all 0", x.row(0, 0, 5), 5);
        x.set(0, 0, 3, 6);
        x.set(0, 0, 4, 1);
        Checks.due("0 is no vintage", x.deliver(0, 0), 0);
        x.set(0, 0, 1, 2000);
        Checks.due("0 is no price", x.deliver(0, 0), 0);
        x.set(0, 0, 2, 10);
        Checks.due("all told anew", x.deliver(0, 0), 1);
        Checks.due("another row is missing", x.deliver(0, 1), -1);
        x.row(0, 0, 40);
        x.row(0, 0, 4);
        Checks.due("a shorter row has no fifth place", x.set(0, 0, 4, 1), -2);
    }

    private static void delivery() {
        WineCellar x = new WineCellar();
        x.kind(0, 1, 0, 0, 60);
        x.kind(2, 1, 0, 4, 9);
        x.lot(0, 2000, 1);
        x.sheet(0);
        Checks.fill(x, 0, 9, 1, 1900, 1, 29, 12, 0, 2100, 10000, 0, 1, 0, 2000, 5, 3, 4, 0, 2000, 5, 4);
        Checks.due("three come, the fourth lacks a number", x.deliver(0, 9), 3);
        Checks.due("lots", x.count(10), 4);
        Checks.due("kind", x.told(1, 0), 1);
        Checks.due("vintage", x.told(1, 1), 1900);
        Checks.due("price", x.told(1, 2), 1);
        Checks.due("FROM", x.told(1, 3), 1904);
        Checks.due("UNTIL", x.told(1, 4), 1909);
        Checks.due("bottles", x.told(1, 5), 12);
        Checks.due("lot in cell 29", x.cell(29, 0), 1);
        Checks.due("lot in cell 0", x.cell(0, 0), 2);
        Checks.due("price", x.told(2, 2), 10000);
        Checks.due("lot in cell 3", x.cell(3, 0), 3);
        Checks.due("bought", x.count(0), 17);
        Checks.due("in cells", x.count(2), 17);
        Checks.due("the row is as before: its first cell is not empty", x.deliver(0, 9), 0);
        Checks.fill(x, 0, 1, 0, 2000, 1, 5, 1, 0, 2000, 1, 6, 1, 0, 2000, 1, 7, 1, 0, 2000, 1, 8, 1,
                0, 2000, 1, 9, 1, 0, 2000, 1, 10, 1, 0, 2000, 1, 11, 1, 0, 2000, 1, 12, 1);
        Checks.due("forty numbers", x.deliver(0, 1), 8);
    }
}
