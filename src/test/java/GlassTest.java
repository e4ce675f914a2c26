/** Promises 14 and 15: glass, wait. */
public final class GlassTest {
    public static void main(String[] args) {
        sixOfABottle();
        byTheYear();
        openOneInALaterYear();
        keptSinceOpened();
        Checks.end();
    }

    private static WineCellar lotOf(int sort, int price) {
        WineCellar x = new WineCellar();
        x.kind(sort, 1, 0, 0, 60);
        x.lot(0, 2000, price);
        return x;
    }

    private static void open(WineCellar x, int lot, int bottles, int glasses) {
        Checks.due("open of " + lot, x.told(lot, 6), bottles);
        Checks.due("glasses left of " + lot, x.told(lot, 7), glasses);
    }

    private static void sixOfABottle() {
        WineCellar x = lotOf(0, 50);
        Checks.due("no bottle", x.glass(0), -2);
        x.put(3, 0, 2);
        for (int i = 1; i <= 5; i++) {
            Checks.due("glass " + i, x.glass(0), 10);
            open(x, 0, 1, 6 - i);
            Checks.due("in cells", x.told(0, 5), 1);
        }
        Checks.due("empty before the sixth", x.count(5), 0);
        Checks.due("glass 6", x.glass(0), 10);
        open(x, 0, 0, 0);
        Checks.due("empty behind the sixth", x.count(5), 1);
        Checks.due("glass 7", x.glass(0), 10);
        open(x, 0, 1, 5);
        Checks.due("the cell is empty", x.cell(3, 0), -1);
        for (int i = 0; i < 5; i++) {
            x.glass(0);
        }
        Checks.due("glass 13", x.glass(0), -2);
        Checks.due("poured", x.count(7), 12);
        Checks.due("empty", x.count(5), 2);
        Checks.due("spilt", x.count(8), 0);
        Checks.due("sold", x.count(4), 0);
        Checks.due("till", x.till(), 120);
    }

    private static void byTheYear() {
        int[][] want = {{-1, -1, -1}, {8, 8, 8}, {9, 9, 9}, {-1, -1, 9}};
        WineCellar x = new WineCellar();
        for (int sort = 0; sort < 3; sort++) {
            x.kind(sort, 1, 0, 1, 2);
            x.lot(sort, 2000, 40);
            x.put(sort, sort, 6);
        }
        for (int year = 0; year < want.length; year++) {
            for (int sort = 0; sort < 3; sort++) {
                Checks.due("glass of sort " + sort + " in 200" + year, x.glass(sort), want[year][sort]);
            }
            x.wait(8760);
        }
        x.lot(0, 2050, 10);
        Checks.due("too young, and no bottle", x.glass(3), -1);
        x.lot(0, 1950, 10);
        Checks.due("too old, and no bottle", x.glass(4), -1);
    }

    private static void openOneInALaterYear() {
        WineCellar x = lotOf(0, 40);
        x.put(0, 0, 1);
        x.wait(8759);
        Checks.due("a glass in 2000", x.glass(0), 8);
        x.wait(1);
        Checks.due("a glass of the same bottle in 2001", x.glass(0), 9);
        open(x, 0, 1, 4);
        x.taste(0, 2);
        x.wait(1);
        Checks.due("in UNTIL", x.glass(0), 9);
        x.kind(0, 1, 0, 0, 0);
        x.lot(1, 2001, 5);
        x.put(1, 1, 1);
        x.wait(8730);
        Checks.due("opened 29 hours ahead of the year's end", x.glass(1), 1);
        x.wait(29);
        Checks.due("an open one behind UNTIL", x.glass(1), -1);
        open(x, 1, 1, 5);
        x.wait(19);
        open(x, 1, 0, 0);
    }

    private static void keptSinceOpened() {
        WineCellar x = lotOf(1, 50);
        x.lot(0, 2000, 10);
        x.put(0, 0, 3);
        x.put(1, 1, 3);
        x.glass(0);
        x.wait(8);
        x.glass(0);
        x.glass(1);
        x.wait(4);
        open(x, 0, 0, 0);
        open(x, 1, 1, 5);
        x.glass(0);
        open(x, 0, 1, 5);
        x.wait(8);
        open(x, 0, 1, 5);
        open(x, 1, 0, 0);
        Checks.due("spilt", x.count(8), 9);
        x.wait(100000);
        open(x, 0, 0, 0);
        Checks.due("spilt", x.count(8), 14);
        Checks.due("empty", x.count(5), 3);
    }
}
