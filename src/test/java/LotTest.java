/** Promises 2 to 6: kind, lot, told, worth, taste. */
public final class LotTest {
    private static final int YOUNG = 0;
    private static final int READY = 1;
    private static final int TIRED = 2;
    private static final int FINE = 3;

    public static void main(String[] args) {
        told();
        worthInTime();
        worthBehind();
        worthOfOddPrices();
        tastedYoung();
        tastedReady();
        tastedTired();
        tastedFine();
        Checks.end();
    }

    private static void told() {
        WineCellar x = new WineCellar();
        x.kind(0, 1, 0, 0, 60);
        x.kind(2, 2, 1, 3, 17);
        x.lot(1, 1985, 321);
        x.lot(0, 1990, 7);
        x.put(4, 0, 12);
        x.put(9, 0, 5);
        x.put(6, 1, 3);
        x.glass(0);
        x.glass(0);
        int[] want = {1, 1985, 321, 1988, 2002, 16, 1, 4};
        for (int what = 0; what < want.length; what++) {
            Checks.due("told(0, " + what + ")", x.told(0, what), want[what]);
        }
        Checks.due("told(1, 5)", x.told(1, 5), 3);
        Checks.due("told(1, 6)", x.told(1, 6), 0);
        Checks.due("told(1, 7)", x.told(1, 7), 0);
        Checks.dueThrow("told(0, -1)", Checks.ARGUMENT, () -> x.told(0, -1));
        Checks.dueThrow("told(0, 8)", Checks.ARGUMENT, () -> x.told(0, 8));
        Checks.dueThrow("told(-1, 0)", Checks.INDEX, () -> x.told(-1, 0));
        Checks.dueThrow("told(2, 8): the lot first", Checks.INDEX, () -> x.told(2, 8));
    }

    private static void worthInTime() {
        WineCellar x = new WineCellar();
        x.kind(0, 1, 0, 5, 45);
        x.lot(0, 2000, 100);
        Checks.due("worth in 1900", x.worth(0, 1900), 100);
        Checks.due("worth ahead of FROM", x.worth(0, 2004), 100);
        Checks.due("worth in FROM", x.worth(0, 2005), 100);
        Checks.due("worth a year behind FROM", x.worth(0, 2006), 105);
        Checks.due("worth 20 years behind FROM", x.worth(0, 2025), 200);
        Checks.due("worth in UNTIL", x.worth(0, 2045), 300);
        Checks.due("worth behind UNTIL", x.worth(0, 2046), 150);
    }

    private static void worthBehind() {
        WineCellar x = new WineCellar();
        for (int sort = 0; sort < 3; sort++) {
            x.kind(sort, 1, 0, 0, 10);
            x.lot(sort, 1950, 101);
        }
        // In UNTIL (1960): 101 and ten twentieths of it, 151.5, cut.
        int[][] want = {{1960, 151, 151, 151}, {1961, 75, 0, 151}, {1962, 37, 0, 151}, {1963, 18, 0, 151},
            {1966, 2, 0, 151}, {1967, 1, 0, 151}, {1968, 0, 0, 151}, {1991, 0, 0, 151}, {1992, 0, 0, 151},
            {1993, 0, 0, 151}, {2024, 0, 0, 151}, {2300, 0, 0, 151}};
        for (int[] row : want) {
            for (int sort = 0; sort < 3; sort++) {
                Checks.due("worth(" + sort + ", " + row[0] + ")", x.worth(sort, row[0]), row[sort + 1]);
            }
        }
    }

    private static void worthOfOddPrices() {
        WineCellar x = new WineCellar();
        x.kind(0, 1, 0, 0, 60);
        x.lot(0, 1900, 1);
        x.lot(0, 1900, 33);
        x.lot(0, 1900, 10000);
        Checks.due("19 twentieths of 1, cut", x.worth(0, 1919), 1);
        Checks.due("20 twentieths of 1", x.worth(0, 1920), 2);
        Checks.due("33 and seven twentieths of it: 44.55", x.worth(1, 1907), 44);
        Checks.due("the dearest", x.worth(2, 1960), 40000);
        Checks.due("its half", x.worth(2, 1961), 20000);
        Checks.due("the last year in which it is worth 1", x.worth(2, 1975), 1);
        Checks.due("the first in which it is worth nothing", x.worth(2, 1976), 0);
    }

    private static void fromUntil(WineCellar x, int lot, int from, int until) {
        Checks.due("FROM of " + lot, x.told(lot, 3), from);
        Checks.due("UNTIL of " + lot, x.told(lot, 4), until);
    }

    private static void tastedYoung() {
        WineCellar x = new WineCellar();
        x.kind(0, 1, 0, 1, 2);
        x.lot(0, 2010, 20);
        Checks.due("YOUNG", x.taste(0, YOUNG), 1);
        fromUntil(x, 0, 2012, 2012);
        Checks.due("YOUNG, FROM is UNTIL", x.taste(0, YOUNG), 0);
        fromUntil(x, 0, 2012, 2012);
        x.lot(0, 1950, 20);
        Checks.due("YOUNG long ago", x.taste(1, YOUNG), 1);
        fromUntil(x, 1, 1952, 1952);
        Checks.due("the worth follows FROM", x.worth(0, 2012), 20);
        x.kind(0, 1, 0, 1, 9);
        x.lot(1, 1990, 20);
        Checks.due("YOUNG far below UNTIL", x.taste(2, YOUNG), 1);
        fromUntil(x, 2, 1992, 1999);
    }

    private static void tastedReady() {
        WineCellar x = new WineCellar();
        x.kind(0, 1, 0, 1, 2);
        x.lot(0, 2010, 20);
        x.wait(8760 * 2 - 1);
        Checks.due("READY above this YEAR", x.taste(0, READY), 1);
        fromUntil(x, 0, 2001, 2012);
        x.wait(1);
        Checks.due("READY below this YEAR", x.taste(0, READY), 0);
        fromUntil(x, 0, 2001, 2012);
        Checks.due("the worth follows FROM", x.worth(0, 2006), 25);
        x.lot(0, 2001, 20);
        Checks.due("READY in this YEAR", x.taste(1, READY), 0);
        fromUntil(x, 1, 2002, 2003);
    }

    private static void tastedTired() {
        WineCellar x = new WineCellar();
        x.kind(0, 1, 0, 1, 20);
        x.lot(0, 1990, 20);
        x.lot(0, 2005, 20);
        x.lot(0, 1980, 20);
        x.lot(0, 1970, 20);
        Checks.due("TIRED between FROM and UNTIL", x.taste(0, TIRED), 1);
        fromUntil(x, 0, 1991, 2000);
        Checks.due("TIRED below FROM", x.taste(1, TIRED), 1);
        fromUntil(x, 1, 2000, 2000);
        Checks.due("TIRED in UNTIL", x.taste(2, TIRED), 0);
        fromUntil(x, 2, 1981, 2000);
        Checks.due("TIRED above UNTIL", x.taste(3, TIRED), 0);
        fromUntil(x, 3, 1971, 1990);
    }

    private static void tastedFine() {
        WineCellar x = new WineCellar();
        x.kind(0, 1, 0, 1, 1);
        x.lot(0, 1990, 20);
        Checks.due("FINE", x.taste(0, FINE), 1);
        fromUntil(x, 0, 1991, 1993);
        Checks.due("FINE again", x.taste(0, FINE), 1);
        fromUntil(x, 0, 1991, 1995);
        Checks.due("the worth follows UNTIL", x.worth(0, 1995), 24);
        for (int i = 0; i < 300; i++) {
            x.taste(0, FINE);
        }
        fromUntil(x, 0, 1991, 2595);
        Checks.due("worth in 2300 below UNTIL", x.worth(0, 2300), 20 + 309);
    }
}
