/** The boundary cases of part 2 of the terms and of promises 14 and 15, each sentence by itself. */
public final class GlassEdgesTest {
    private static final int MIN = Integer.MIN_VALUE;
    private static final int MAX = Integer.MAX_VALUE;
    private static final int[] KEPT = {48, 12, 240};

    public static void main(String[] args) {
        sixGlasses();
        anotherIsOpenedBehindTheSixth();
        lowestCell();
        priceRoundedUp();
        keptForHours();
        keptSinceItWasOpened();
        spiltInOneLongWait();
        emptyIsNotSpilt();
        openedInALaterHour();
        pouredBelowFrom();
        pouredAboveUntil();
        openOneAboveUntil();
        noneOpenAndNoneInACell();
        theYearComesFirst();
        sixtyOpen();
        hoursToWait();
        hourNotAboveAMillion();
        waitThrowsInOrder();
        Checks.end();
    }

    /** One lot of a sort, good from 2000 to 2060, with bottles in cells 4 and 7. */
    private static WineCellar lotOf(int sort, int price) {
        WineCellar x = new WineCellar();
        x.kind(sort, 1, 0, 0, 60);
        x.lot(0, 2000, price);
        x.put(7, 0, 2);
        x.put(4, 0, 1);
        return x;
    }

    private static WineCellar poured(int sort, int glasses) {
        WineCellar x = lotOf(sort, 50);
        for (int i = 0; i < glasses; i++) {
            Checks.due("glass " + i, x.glass(0), 10);
        }
        return x;
    }

    private static void open(String when, WineCellar x, int bottles, int glasses, int empty, int spilt) {
        Checks.due(when + ": open of the lot", x.told(0, 6), bottles);
        Checks.due(when + ": glasses left", x.told(0, 7), glasses);
        Checks.due(when + ": open", x.count(3), bottles);
        Checks.due(when + ": empty", x.count(5), empty);
        Checks.due(when + ": spilt", x.count(8), spilt);
    }

    /** "GLASSES: six of a BOTTLE."; "it is EMPTY, too, behind its sixth GLASS" */
    private static void sixGlasses() {
        open("no glass", poured(0, 0), 0, 0, 0, 0);
        open("one glass", poured(0, 1), 1, 5, 0, 0);
        open("five glasses", poured(0, 5), 1, 1, 0, 0);
        open("six glasses", poured(0, 6), 0, 0, 1, 0);
    }

    private static void anotherIsOpenedBehindTheSixth() {
        Checks.due("in cells behind the sixth", poured(0, 6).count(2), 2);
        open("seven glasses", poured(0, 7), 1, 5, 1, 0);
        Checks.due("in cells behind the seventh", poured(0, 7).count(2), 1);
        open("twelve glasses", poured(0, 12), 0, 0, 2, 0);
        open("eighteen glasses", poured(0, 18), 0, 0, 3, 0);
        Checks.refused("a 19th glass of three bottles", () -> poured(0, 18), -2, x -> x.glass(0));
    }

    /** "without one a BOTTLE of the lowest CELL that holds the LOT is opened (now)" */
    private static void lowestCell() {
        WineCellar x = poured(0, 1);
        Checks.due("cell 4", x.cell(4, 1), 0);
        Checks.due("cell 4's lot", x.cell(4, 0), -1);
        Checks.due("cell 7", x.cell(7, 1), 2);
        WineCellar y = poured(0, 7);
        Checks.due("cell 7 behind the seventh", y.cell(7, 1), 1);
        WineCellar z = lotOf(0, 50);
        z.put(29, 0, 12);
        z.put(0, 0, 12);
        z.lot(0, 2000, 1);
        z.put(1, 1, 3);
        z.glass(0);
        z.glass(1);
        Checks.due("cell 0", z.cell(0, 1), 11);
        Checks.due("cell 1", z.cell(1, 1), 2);
        Checks.due("cell 4", z.cell(4, 1), 1);
        Checks.due("cell 29", z.cell(29, 1), 12);
    }

    /** "the fifth part of WORTH this YEAR, rounded up" */
    private static void priceRoundedUp() {
        int[][] want = {{1, 1}, {4, 1}, {5, 1}, {6, 2}, {9, 2}, {10, 2}, {11, 3}, {9995, 1999}, {9996, 2000}, {10000, 2000}};
        for (int[] row : want) {
            WineCellar x = lotOf(2, row[0]);
            Checks.due("glass at worth " + row[0], x.glass(0), row[1]);
            Checks.due("till", x.till(), row[1]);
        }
        WineCellar x = lotOf(2, 20);
        x.wait(8759);
        Checks.due("glass at worth 20", x.glass(0), 4);
        x.wait(1);
        Checks.due("glass of the same bottle at worth 21", x.glass(0), 5);
        open("the same bottle", x, 1, 4, 0, 0);
    }

    /** "kept for 48 HOURS (STILL), 12 (FIZZ), 240 (SWEET): when so many have gone .. what is left in it is SPILT" */
    private static void keptForHours() {
        for (int sort = 0; sort < 3; sort++) {
            for (int glasses = 1; glasses < 6; glasses++) {
                WineCellar x = poured(sort, glasses);
                x.wait(KEPT[sort] - 1);
                open("sort " + sort + " in its last hour", x, 1, 6 - glasses, 0, 0);
                x.wait(0);
                open("sort " + sort + " in its last hour still", x, 1, 6 - glasses, 0, 0);
                x.wait(1);
                open("sort " + sort + " when its hours have gone", x, 0, 0, 1, 6 - glasses);
                Checks.due("poured", x.count(7), glasses);
            }
        }
    }

    private static void keptSinceItWasOpened() {
        for (int sort = 0; sort < 3; sort++) {
            WineCellar x = poured(sort, 1);
            x.wait(KEPT[sort] - 1);
            x.glass(0);
            open("a glass in the last hour", x, 1, 4, 0, 0);
            x.wait(1);
            open("an hour later", x, 0, 0, 1, 4);
            x.glass(0);
            open("the next bottle", x, 1, 5, 1, 4);
            x.wait(KEPT[sort] - 1);
            open("its last hour", x, 1, 5, 1, 4);
            x.wait(1);
            open("when its hours have gone", x, 0, 0, 2, 9);
        }
    }

    private static void spiltInOneLongWait() {
        for (int sort = 0; sort < 3; sort++) {
            WineCellar x = poured(sort, 2);
            x.wait(100000);
            open("behind a long wait", x, 0, 0, 1, 4);
            x.wait(100000);
            open("spilt but once", x, 0, 0, 1, 4);
        }
    }

    private static void emptyIsNotSpilt() {
        WineCellar x = poured(0, 6);
        x.wait(48);
        open("six poured and waited", x, 0, 0, 1, 0);
    }

    /** "since it was opened": the hours before it do not count. */
    private static void openedInALaterHour() {
        for (int sort = 0; sort < 3; sort++) {
            WineCellar x = lotOf(sort, 50);
            x.wait(1000);
            x.glass(0);
            x.wait(KEPT[sort] - 1);
            open("opened in hour 1000, its last hour", x, 1, 5, 0, 0);
            x.wait(1);
            open("opened in hour 1000, its hours have gone", x, 0, 0, 1, 5);
        }
    }

    /** Two bottles of a sort, good from 2002 to 2004, an hour ahead of the year's end. */
    private static WineCellar atTheEndOf(int sort, int year) {
        WineCellar x = new WineCellar();
        x.kind(sort, 1, 0, 2, 4);
        x.lot(0, 2000, 40);
        x.put(3, 0, 2);
        x.wait(8760 * (year - 1999) - 1);
        return x;
    }

    /** "none in one below FROM"; "-1: below FROM" */
    private static void pouredBelowFrom() {
        for (int sort = 0; sort < 3; sort++) {
            int one = sort;
            Checks.refused("sort " + sort + " an hour below FROM", () -> atTheEndOf(one, 2001), -1, x -> x.glass(0));
            WineCellar x = atTheEndOf(sort, 2001);
            x.wait(1);
            Checks.due("sort " + sort + " in FROM", x.glass(0), 8);
        }
    }

    /** "A STILL or FIZZ is .. not poured, in a YEAR above UNTIL"; "-1: .. or above UNTIL" */
    private static void pouredAboveUntil() {
        int[] above = {-1, -1, 9};
        for (int sort = 0; sort < 3; sort++) {
            Checks.due("sort " + sort + " in UNTIL", atTheEndOf(sort, 2004).glass(0), 9);
            WineCellar x = atTheEndOf(sort, 2004);
            x.wait(1);
            Checks.due("sort " + sort + " above UNTIL", x.glass(0), above[sort]);
            Checks.due("opened", x.count(3), sort == 2 ? 1 : 0);
        }
        Checks.refused("a still one above UNTIL", () -> atTheEndOf(0, 2005), -1, x -> x.glass(0));
        Checks.refused("a fizz above UNTIL", () -> atTheEndOf(1, 2005), -1, x -> x.glass(0));
    }

    private static WineCellar openedAtTheEndOf2004(int sort) {
        WineCellar x = atTheEndOf(sort, 2004);
        x.glass(0);
        x.wait(1);
        return x;
    }

    /** An open bottle is not poured above UNTIL either; its hours go on. */
    private static void openOneAboveUntil() {
        Checks.refused("an open still one above UNTIL", () -> openedAtTheEndOf2004(0), -1, x -> x.glass(0));
        Checks.refused("an open fizz above UNTIL", () -> openedAtTheEndOf2004(1), -1, x -> x.glass(0));
        Checks.due("an open sweet one above UNTIL", openedAtTheEndOf2004(2).glass(0), 9);
        WineCellar x = openedAtTheEndOf2004(0);
        x.wait(46);
        open("its last hour", x, 1, 5, 0, 0);
        x.wait(1);
        open("its hours have gone", x, 0, 0, 1, 5);
    }

    /** "-2: none is open, and none lies in a CELL" */
    private static void noneOpenAndNoneInACell() {
        Checks.refused("never a bottle", GlassEdgesTest::withoutBottles, -2, x -> x.glass(0));
        WineCellar x = withoutBottles();
        x.put(9, 0, 1);
        Checks.due("none open, one in a cell", x.glass(0), 10);
        Checks.due("one open, none in a cell", x.glass(0), 10);
        x.wait(48);
        Checks.due("none open, none in a cell", x.glass(0), -2);
        x.put(9, 0, 1);
        x.sell(9);
        Checks.due("the last one sold", x.glass(0), -2);
    }

    private static WineCellar withoutBottles() {
        WineCellar x = new WineCellar();
        x.kind(0, 1, 0, 0, 60);
        x.lot(0, 2000, 50);
        x.lot(0, 2000, 50);
        x.put(3, 1, 4);
        return x;
    }

    private static void theYearComesFirst() {
        WineCellar x = new WineCellar();
        x.kind(0, 1, 0, 1, 1);
        x.lot(0, 2000, 50);
        x.lot(0, 1998, 50);
        Checks.due("below FROM, and no bottle", x.glass(0), -1);
        Checks.due("above UNTIL, and no bottle", x.glass(1), -1);
    }

    /** A sweet bottle open of each of the first lots. */
    private static WineCellar openOf(int lots) {
        WineCellar x = new WineCellar();
        x.kind(2, 1, 0, 0, 60);
        for (int lot = 0; lot < lots; lot++) {
            x.lot(0, 2000, 5);
            x.put(lot % 30, lot, 1);
            Checks.due("glass of " + lot, x.glass(lot), 1);
        }
        return x;
    }

    /**
     * "60 may be open at one time"; "-3: 60 are open". There are 60 lots, and one opens a second bottle only when
     * none of it is open: so the 60th is opened, and a 61st is never asked for.
     */
    private static void sixtyOpen() {
        Checks.due("59 are open", openOf(59).count(3), 59);
        WineCellar x = openOf(60);
        Checks.due("60 are open", x.count(3), 60);
        x.put(0, 59, 12);
        for (int i = 0; i < 5; i++) {
            Checks.due("poured where 60 are open", x.glass(59), 1);
        }
        Checks.due("59 are open behind its sixth", x.count(3), 59);
        Checks.due("the 60th is opened again", x.glass(59), 1);
        Checks.due("60 are open again", x.count(3), 60);
        Checks.due("in cells", x.count(2), 11);
        x.wait(239);
        Checks.due("60 are open in their last hour", x.count(3), 60);
        x.wait(1);
        Checks.due("none is open", x.count(3), 0);
        Checks.due("empty", x.count(5), 61);
        Checks.due("spilt", x.count(8), 60 * 5);
    }

    /** "IllegalArgumentException: they are not 0 to 100,000" */
    private static void hoursToWait() {
        for (int hours : new int[] {-1, 100001, MIN, MAX}) {
            Checks.refused("wait(" + hours + ")", () -> poured(0, 1), Checks.ARGUMENT, x -> x.wait(hours));
        }
        Checks.refused("wait(0)", () -> poured(0, 1), 0, x -> x.wait(0));
        Checks.due("wait(1)", new WineCellar().wait(1), 1);
        Checks.due("wait(100,000)", new WineCellar().wait(100000), 100000);
    }

    /** A sweet bottle is open that has an hour to go. */
    private static WineCellar atHour(int hour) {
        WineCellar x = new WineCellar();
        x.kind(2, 1, 0, 0, 60);
        x.lot(0, 2000, 5);
        x.put(0, 0, 1);
        for (int left = hour - 239; left > 0; left -= 100000) {
            x.wait(Math.min(left, 100000));
        }
        x.glass(0);
        Checks.due("the hour", x.wait(239), hour);
        return x;
    }

    /** "So many HOURS go by: HOUR."; "IllegalStateException: HOUR would be above 1,000,000." */
    private static void hourNotAboveAMillion() {
        Checks.due("wait to 999,999", atHour(900000).wait(99999), 999999);
        Checks.due("wait to 1,000,000", atHour(900000).wait(100000), 1000000);
        Checks.refused("wait to 1,000,001", () -> atHour(900001), Checks.STATE, x -> x.wait(100000));
        WineCellar last = atHour(999999);
        open("in 999,999", last, 1, 5, 0, 0);
        Checks.due("wait(1) in 999,999", last.wait(1), 1000000);
        open("in 1,000,000", last, 0, 0, 1, 5);
        Checks.refused("wait(2) in 999,999", () -> atHour(999999), Checks.STATE, x -> x.wait(2));
        Checks.refused("wait(1) in 1,000,000", () -> atHour(1000000), Checks.STATE, x -> x.wait(1));
        Checks.refused("wait(0) in 1,000,000", () -> atHour(1000000), 1000000, x -> x.wait(0));
    }

    private static void waitThrowsInOrder() {
        Checks.refused("wait(100,001) in 1,000,000", () -> atHour(1000000), Checks.ARGUMENT, x -> x.wait(100001));
        Checks.refused("wait(-1) in 1,000,000", () -> atHour(1000000), Checks.ARGUMENT, x -> x.wait(-1));
    }
}
