import java.util.Arrays;
import java.util.Random;

/** Promise 24: plan, by hand, and in random cellars against trying everything and the Hungarian method. */
public final class PlanTest {
    public static void main(String[] args) {
        byHand();
        smallCellars();
        fullCellars();
        Checks.end();
    }

    private static void byHand() {
        WineCellar x = new WineCellar();
        x.kind(0, 1, 0, 0, 2);
        x.kind(0, 1, 0, 0, 60);
        x.lot(0, 2000, 100);
        x.lot(1, 2000, 90);
        x.put(0, 0, 2);
        x.put(1, 1, 3);
        Checks.due("plan(1, 0)", x.plan(1, 0), 0);
        Checks.due("plan(6, 0)", x.plan(6, 0), 0);
        Checks.due("plan(1, 1)", x.plan(1, 1), 100);
        Checks.due("plan(1, 2)", x.plan(1, 2), 200);
        Checks.due("plan(1, 3)", x.plan(1, 3), 290);
        Checks.due("plan(1, 100)", x.plan(1, 100), 470);
        Checks.due("plan(2, 1)", x.plan(2, 1), 205);
        Checks.due("plan(3, 1)", x.plan(3, 1), 90 + 105 + 110);
        Checks.due("plan(4, 1)", x.plan(4, 1), 90 + 105 + 110 + 103);
        Checks.due("plan(4, 2)", x.plan(4, 2), 94 + 110 + 110 + 103 + 103);
        Checks.due("plan(6, 100)", x.plan(6, 100), 220 + 3 * 112);
    }

    private static WineCellar randomCellar(Random random, int cells, int mostBottles, int mostPrice) {
        WineCellar x = new WineCellar();
        for (int i = 0; i < 20; i++) {
            int young = random.nextInt(6);
            x.kind(random.nextInt(3), 1, 0, young, young + random.nextInt(8));
        }
        for (int cell = 0; cell < cells; cell++) {
            x.lot(random.nextInt(20), 1993 + random.nextInt(11), 1 + random.nextInt(mostPrice));
            x.put(cell, random.nextInt(cell + 1), 1 + random.nextInt(mostBottles));
        }
        x.wait(random.nextInt(20000));
        return x;
    }

    /** For each bottle what it brings in each year, 0 where it may not be sold; asked but once a cell. */
    private static int[][] gains(WineCellar x, int years) {
        int[][] gains = new int[x.count(2)][];
        int year = 2000 + x.count(13) / 8760;
        int bottle = 0;
        for (int cell = 0; cell < 30; cell++) {
            int bottles = x.cell(cell, 1);
            if (bottles > 0) {
                Arrays.fill(gains, bottle, bottle + bottles, gainsOf(x, x.cell(cell, 0), year, years));
                bottle += bottles;
            }
        }
        return gains;
    }

    private static int[] gainsOf(WineCellar x, int lot, int year, int years) {
        int[] gains = new int[years];
        int from = x.told(lot, 3);
        int until = x.told(lot, 4);
        for (int y = 0; y < years; y++) {
            gains[y] = year + y >= from && year + y <= until ? x.worth(lot, year + y) : 0;
        }
        return gains;
    }

    private static void smallCellars() {
        Random random = new Random(1);
        for (int i = 0; i < 3000; i++) {
            WineCellar x = randomCellar(random, 1 + random.nextInt(4), 2, i % 2 == 0 ? 30 : 1000);
            for (int plans = 0; plans < 3; plans++) {
                int years = 1 + random.nextInt(i % 10 == 0 ? 6 : 3);
                int bottles = random.nextInt(3);
                int[] room = new int[years];
                Arrays.fill(room, bottles);
                Checks.due("small cellar " + i, x.plan(years, bottles), mostByTrying(gains(x, years), 0, room));
            }
        }
    }

    private static int mostByTrying(int[][] gains, int bottle, int[] room) {
        if (bottle == gains.length) {
            return 0;
        }
        int most = mostByTrying(gains, bottle + 1, room);
        for (int y = 0; y < room.length; y++) {
            if (room[y] > 0 && gains[bottle][y] > 0) {
                room[y]--;
                most = Math.max(most, gains[bottle][y] + mostByTrying(gains, bottle + 1, room));
                room[y]++;
            }
        }
        return most;
    }

    private static void fullCellars() {
        Random random = new Random(2);
        for (int i = 0; i < 60; i++) {
            WineCellar x = randomCellar(random, 10 + random.nextInt(21), 12, i % 2 == 0 ? 40 : 10000);
            int years = 1 + random.nextInt(6);
            int bottles = i % 5 == 0 ? 100 : random.nextInt(40);
            Checks.due("full cellar " + i, x.plan(years, bottles), mostByPrices(gains(x, years), bottles));
        }
    }

    /** The Hungarian method: rows are bottles; columns are places in years, then one of its own a bottle. */
    private static int mostByPrices(int[][] gains, int bottlesAYear) {
        int n = gains.length;
        if (n == 0) {
            return 0;
        }
        int places = gains[0].length * bottlesAYear;
        int m = places + n;
        int[] u = new int[n + 1];
        int[] v = new int[m + 1];
        int[] row = new int[m + 1];
        int[] way = new int[m + 1];
        for (int i = 1; i <= n; i++) {
            row[0] = i;
            int column = 0;
            int[] least = new int[m + 1];
            Arrays.fill(least, Integer.MAX_VALUE);
            boolean[] used = new boolean[m + 1];
            do {
                used[column] = true;
                int delta = Integer.MAX_VALUE;
                int next = 0;
                for (int j = 1; j <= m; j++) {
                    if (!used[j]) {
                        int gain = j <= places ? gains[row[column] - 1][(j - 1) / bottlesAYear] : 0;
                        int cost = -gain - u[row[column]] - v[j];
                        if (cost < least[j]) {
                            least[j] = cost;
                            way[j] = column;
                        }
                        if (least[j] < delta) {
                            delta = least[j];
                            next = j;
                        }
                    }
                }
                for (int j = 0; j <= m; j++) {
                    if (used[j]) {
                        u[row[j]] += delta;
                        v[j] -= delta;
                    } else {
                        least[j] -= delta;
                    }
                }
                column = next;
            } while (row[column] != 0);
            do {
                int before = way[column];
                row[column] = row[before];
                column = before;
            } while (column != 0);
        }
        return v[0];
    }
}
