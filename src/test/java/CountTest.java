/** Promises 25 and 26: count, till. */
public final class CountTest {
    public static void main(String[] args) {
        counts();
        till();
        Checks.end();
    }

    private static void dueCounts(String when, WineCellar x, int... want) {
        for (int what = 0; what < want.length; what++) {
            Checks.due(when + ": count(" + what + ")", x.count(what), want[what]);
        }
    }

    private static void counts() {
        WineCellar x = new WineCellar();
        x.kind(0, 1, 0, 0, 60);
        x.kind(1, 1, 0, 0, 60);
        x.lot(0, 2000, 50);
        x.lot(1, 2000, 50);
        x.lot(1, 2000, 50);
        x.put(0, 0, 10);
        x.put(1, 1, 3);
        dueCounts("bought", x, 13, 0, 13, 0, 0, 0, 0, 0, 0, 2, 3, 0, 0, 0, 0);
        x.counted(0, 12);
        x.counted(1, 2);
        x.broken(0);
        x.sell(0);
        x.sell(0);
        dueCounts("counted, broken and sold", x, 13, 2, 11, 0, 2, 0, 2, 0, 0, 2, 3, 0, 0, 0, 0);
        for (int i = 0; i < 8; i++) {
            x.glass(0);
        }
        x.glass(1);
        dueCounts("poured", x, 13, 2, 8, 2, 2, 1, 2, 9, 0, 2, 3, 0, 0, 0, 0);
        x.wait(12);
        dueCounts("waited", x, 13, 2, 8, 1, 2, 2, 2, 9, 5, 2, 3, 0, 0, 12, 0);
        x.sheet(0);
        x.sheet(2);
        x.row(1, 0, 5);
        long[] five = {0, 2000, 7, 9, 4};
        for (int i = 0; i < 5; i++) {
            x.set(1, 0, i, five[i]);
        }
        x.deliver(1, 0);
        Checks.dish(x, "red+1");
        Checks.feed(x, "white+1,white+2,white+3");
        x.move(0, 20, 2);
        dueCounts("delivered and fed", x, 17, 2, 12, 1, 2, 2, 2, 9, 5, 2, 4, 1, 2, 12, 40);
    }

    private static void till() {
        WineCellar x = new WineCellar();
        x.kind(2, 1, 0, 0, 60);
        x.lot(0, 1990, 101);
        x.put(0, 0, 5);
        Checks.due("bought", x.till(), 0);
        Checks.due("sell", x.sell(0), 151);
        Checks.due("sold", x.till(), 151);
        Checks.due("glass", x.glass(0), 31);
        Checks.due("poured", x.till(), 182);
        x.broken(0);
        x.counted(0, 1);
        x.counted(0, 3);
        x.wait(240);
        Checks.due("broken, counted and spilt", x.till(), 182);
        x.wait(8760);
        Checks.due("sell a year later", x.sell(0), 156);
        Checks.due("glass a year later", x.glass(0), 32);
        Checks.due("till", x.till(), 182 + 156 + 32);
    }
}
