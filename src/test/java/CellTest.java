/** Promises 7 to 13: put, move, cell, find, sell, broken, counted. */
public final class CellTest {
    public static void main(String[] args) {
        put();
        move();
        cell();
        find();
        sell();
        sellByTheYear();
        broken();
        counted();
        Checks.end();
    }

    /** Lots 0 and 1, both good in 2000. */
    private static WineCellar twoLots() {
        WineCellar x = new WineCellar();
        x.kind(0, 1, 0, 0, 10);
        x.lot(0, 1996, 100);
        x.lot(0, 1998, 50);
        return x;
    }

    private static void content(WineCellar x, int cell, int lot, int bottles) {
        Checks.due("lot in cell " + cell, x.cell(cell, 0), lot);
        Checks.due("bottles in cell " + cell, x.cell(cell, 1), bottles);
    }

    private static void put() {
        WineCellar x = twoLots();
        Checks.due("put 1", x.put(0, 0, 1), 1);
        Checks.due("put 11 more", x.put(0, 0, 11), 12);
        Checks.due("put a 13th", x.put(0, 0, 1), -2);
        Checks.due("put another lot", x.put(0, 1, 1), -1);
        Checks.due("put too many of another lot", x.put(0, 1, 12), -1);
        content(x, 0, 0, 12);
        Checks.due("put 12 in the last cell", x.put(29, 1, 12), 12);
        content(x, 29, 1, 12);
        Checks.due("bought", x.count(0), 24);
        x.counted(29, 0);
        Checks.due("put another lot where none is left", x.put(29, 0, 2), 2);
        content(x, 29, 0, 2);
    }

    private static void move() {
        WineCellar x = twoLots();
        x.put(3, 0, 9);
        x.put(4, 1, 2);
        x.put(5, 0, 8);
        Checks.due("move to an empty cell", x.move(3, 0, 2), 2);
        content(x, 3, 0, 7);
        content(x, 0, 0, 2);
        Checks.due("move one too many", x.move(3, 0, 8), -1);
        Checks.due("move most too many", x.move(3, 0, Integer.MAX_VALUE), -1);
        Checks.due("move from an empty cell", x.move(7, 3, 1), -1);
        Checks.due("move too many to another lot", x.move(3, 4, 8), -1);
        Checks.due("move to another lot", x.move(3, 4, 1), -2);
        Checks.due("move to a 13th", x.move(3, 5, 5), -3);
        content(x, 3, 0, 7);
        content(x, 5, 0, 8);
        Checks.due("move to the 12th", x.move(3, 5, 4), 12);
        Checks.due("move all", x.move(3, 0, 3), 5);
        content(x, 3, -1, 0);
        Checks.due("another lot may come then", x.move(4, 3, 1), 1);
        Checks.due("bought as before", x.count(0), 19);
        Checks.due("in cells as before", x.count(2), 19);
    }

    private static void cell() {
        WineCellar x = twoLots();
        x.put(29, 1, 3);
        content(x, 29, 1, 3);
        content(x, 28, -1, 0);
        Checks.dueThrow("cell(0, -1)", Checks.ARGUMENT, () -> x.cell(0, -1));
        Checks.dueThrow("cell(0, 2)", Checks.ARGUMENT, () -> x.cell(0, 2));
        Checks.dueThrow("cell(-1, 0)", Checks.ELEMENT, () -> x.cell(-1, 0));
        Checks.dueThrow("cell(30, 2): the cell first", Checks.ELEMENT, () -> x.cell(30, 2));
    }

    private static void find() {
        WineCellar x = twoLots();
        Checks.due("find of a lot without bottles", x.find(0, 0), -1);
        x.put(29, 0, 1);
        x.put(2, 0, 1);
        x.put(11, 1, 1);
        x.put(12, 0, 1);
        int[] want = {2, 12, 29, -1};
        for (int k = 0; k < want.length; k++) {
            Checks.due("find(0, " + k + ")", x.find(0, k), want[k]);
        }
        Checks.due("find(1, 0)", x.find(1, 0), 11);
        Checks.due("find(0, -1)", x.find(0, -1), -1);
        Checks.due("find(0, MAX)", x.find(0, Integer.MAX_VALUE), -1);
        Checks.due("find(0, MIN)", x.find(0, Integer.MIN_VALUE), -1);
        x.sell(2);
        Checks.due("find when one is sold", x.find(0, 0), 12);
        Checks.dueThrow("find(-1, 0)", Checks.INDEX, () -> x.find(-1, 0));
        Checks.dueThrow("find(2, 0)", Checks.INDEX, () -> x.find(2, 0));
    }

    private static void sell() {
        WineCellar x = twoLots();
        x.put(1, 0, 2);
        Checks.due("sell", x.sell(1), 120);
        content(x, 1, 0, 1);
        Checks.due("sell the last", x.sell(1), 120);
        content(x, 1, -1, 0);
        Checks.due("sell of an empty cell", x.sell(1), -1);
        Checks.due("sold", x.count(4), 2);
        Checks.due("till", x.till(), 240);
        Checks.dueThrow("sell(-1)", Checks.ELEMENT, () -> x.sell(-1));
        Checks.dueThrow("sell(30)", Checks.ELEMENT, () -> x.sell(30));
    }

    /** One lot of each sort, good in 2001 and 2002 alone. */
    private static void sellByTheYear() {
        WineCellar x = new WineCellar();
        for (int sort = 0; sort < 3; sort++) {
            x.kind(sort, 1, 0, 1, 2);
            x.lot(sort, 2000, 40);
            x.put(sort, sort, 6);
        }
        int[][] want = {{-2, -2, -2}, {40, 40, 40}, {42, 42, 42}, {-2, -2, 42}};
        for (int year = 0; year < want.length; year++) {
            for (int sort = 0; sort < 3; sort++) {
                Checks.due("sell sort " + sort + " in 200" + year, x.sell(sort), want[year][sort]);
            }
            x.wait(8760);
        }
        Checks.due("sold", x.count(4), 7);
        Checks.due("till", x.till(), 3 * 82 + 42);
    }

    private static void broken() {
        WineCellar x = twoLots();
        x.put(8, 1, 2);
        Checks.due("broken", x.broken(8), 1);
        content(x, 8, 1, 1);
        Checks.due("the last broken", x.broken(8), 0);
        content(x, 8, -1, 0);
        Checks.due("broken in an empty cell", x.broken(8), -1);
        Checks.due("all broken", x.count(6), 2);
        Checks.due("till", x.till(), 0);
        Checks.dueThrow("broken(-1)", Checks.ELEMENT, () -> x.broken(-1));
        Checks.dueThrow("broken(30)", Checks.ELEMENT, () -> x.broken(30));
    }

    private static void counted() {
        WineCellar x = twoLots();
        x.put(7, 0, 5);
        Checks.due("counted as told", x.counted(7, 5), 0);
        Checks.due("counted more", x.counted(7, 12), 7);
        Checks.due("found", x.count(1), 7);
        Checks.due("counted fewer", x.counted(7, 10), -2);
        Checks.due("broken", x.count(6), 2);
        Checks.due("found still", x.count(1), 7);
        content(x, 7, 0, 10);
        Checks.due("counted none", x.counted(7, 0), -10);
        content(x, 7, -1, 0);
        Checks.due("broken all", x.count(6), 12);
        Checks.due("counted in an empty cell", x.counted(7, 4), -100);
        Checks.due("counted none in an empty cell", x.counted(7, 0), -100);
        content(x, 7, -1, 0);
        Checks.due("found nothing there", x.count(1), 7);
        Checks.due("bought", x.count(0), 5);
        x.put(6, 1, 5);
        Checks.due("counted one more", x.counted(6, 6), 1);
        Checks.due("found one", x.count(1), 8);
        Checks.due("counted one fewer", x.counted(6, 5), -1);
        Checks.due("broken one", x.count(6), 13);
        content(x, 6, 1, 5);
        Checks.dueThrow("counted(7, -1), empty", Checks.ARGUMENT, () -> x.counted(7, -1));
        Checks.dueThrow("counted(7, 13)", Checks.ARGUMENT, () -> x.counted(7, 13));
        Checks.dueThrow("counted(30, 13): the cell first", Checks.ELEMENT, () -> x.counted(30, 13));
        Checks.dueThrow("counted(-1, 3)", Checks.ELEMENT, () -> x.counted(-1, 3));
    }
}
