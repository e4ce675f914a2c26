/** The boundary cases of part 5 of the terms and of promises 24 to 26, each sentence by itself. */
public final class PlanEdgesTest {
    private static final int MIN = Integer.MIN_VALUE;
    private static final int MAX = Integer.MAX_VALUE;

    public static void main(String[] args) {
        yearsOfAPlan();
        bottlesOfAPlan();
        soManyBottlesAYear();
        aHundredAYear();
        noBottleAYear();
        eachOnceOrNever();
        notBelowFrom();
        notAboveUntil();
        fromAndUntilAsTheyAreNow();
        thisYearFirst();
        onlyBottlesInCells();
        theMostIsNotTheNearest();
        aFullCellar();
        planChangesNothing();
        whatsOfACount();
        bottlesAreSomewhere();
        paidAlone();
        Checks.end();
    }

    /** Two lots of 2000 at 100 and 60, good to 2002 and to 2060: so many bottles of each. */
    private static WineCellar stocked(int bottles) {
        WineCellar x = new WineCellar();
        x.kind(0, 1, 0, 0, 2);
        x.kind(0, 1, 0, 0, 60);
        x.lot(0, 2000, 100);
        x.lot(1, 2000, 60);
        x.put(0, 0, bottles);
        x.put(1, 1, bottles);
        return x;
    }

    /** "IllegalArgumentException: years are not 1 to 6 .." */
    private static void yearsOfAPlan() {
        for (int years : new int[] {0, 7, -1, MIN, MAX}) {
            Checks.refused("plan(" + years + ", 1)", () -> stocked(1), Checks.ARGUMENT, x -> x.plan(years, 1));
        }
        int[] most = {100, 60 + 105, 63 + 110, 110 + 69, 110 + 72, 110 + 75};
        for (int years = 1; years <= 6; years++) {
            Checks.due("plan(" + years + ", 1)", stocked(1).plan(years, 1), most[years - 1]);
        }
    }

    /** ".. or BOTTLES not 0 to 100" */
    private static void bottlesOfAPlan() {
        for (int bottles : new int[] {-1, 101, MIN, MAX}) {
            Checks.refused("plan(1, " + bottles + ")", () -> stocked(1), Checks.ARGUMENT, x -> x.plan(1, bottles));
        }
        Checks.due("plan(1, 0)", stocked(1).plan(1, 0), 0);
        Checks.due("plan(1, 100)", stocked(1).plan(1, 100), 160);
        Checks.refused("neither years nor bottles", () -> stocked(1), Checks.ARGUMENT, x -> x.plan(0, 101));
    }

    /** "so many BOTTLES a year at most": below, at and above all that lie there. */
    private static void soManyBottlesAYear() {
        int[] most = {0, 100, 200, 300, 360, 420, 480, 480};
        for (int bottles = 0; bottles < most.length; bottles++) {
            Checks.due("plan(1, " + bottles + ")", stocked(3).plan(1, bottles), most[bottles]);
        }
        Checks.due("two a year over two years", stocked(3).plan(2, 2), 100 + 60 + 105 + 105);
        Checks.due("three a year over two years", stocked(3).plan(2, 3), 3 * 60 + 3 * 105);
        Checks.due("four a year over two years", stocked(3).plan(2, 4), 2 * 60 + 63 + 3 * 105);
    }

    private static WineCellar everyCell(int bottles) {
        WineCellar x = new WineCellar();
        x.kind(0, 1, 0, 0, 60);
        x.lot(0, 2000, 20);
        for (int cell = 0; cell < 30; cell++) {
            x.put(cell, 0, bottles);
        }
        return x;
    }

    private static void aHundredAYear() {
        Checks.due("99 of 360", everyCell(12).plan(1, 99), 99 * 20);
        Checks.due("100 of 360", everyCell(12).plan(1, 100), 100 * 20);
        Checks.due("100 of 120", everyCell(4).plan(1, 100), 100 * 20);
        Checks.due("100 of 90", everyCell(3).plan(1, 100), 90 * 20);
        Checks.due("100 a year of 360, six years", everyCell(12).plan(6, 100), 100 * (25 + 24 + 23) + 60 * 22);
        Checks.due("60 a year of 360, six years", everyCell(12).plan(6, 60), 60 * (25 + 24 + 23 + 22 + 21 + 20));
        Checks.due("61 a year of 360, six years", everyCell(12).plan(6, 61), 61 * (25 + 24 + 23 + 22 + 21) + 55 * 20);
    }

    private static void noBottleAYear() {
        for (int years = 1; years <= 6; years++) {
            Checks.due("plan(" + years + ", 0)", everyCell(12).plan(years, 0), 0);
        }
    }

    /** "BOTTLES that lie in CELLS are each sold in one of these years or never" */
    private static void eachOnceOrNever() {
        Checks.due("one bottle over six years", everyCell(1).plan(6, 1), 25 + 24 + 23 + 22 + 21 + 20);
        WineCellar x = new WineCellar();
        x.kind(0, 1, 0, 0, 60);
        x.lot(0, 2000, 20);
        x.put(0, 0, 1);
        Checks.due("one bottle alone", x.plan(6, 100), 25);
        Checks.due("five bottles, two a year, two years", fiveOf().plan(2, 2), 2 * 21 + 2 * 20);
    }

    private static WineCellar fiveOf() {
        WineCellar x = new WineCellar();
        x.kind(0, 1, 0, 0, 60);
        x.lot(0, 2000, 20);
        x.put(0, 0, 5);
        return x;
    }

    /** A bottle of each sort at 20, 40 and 60, good from 2002 to 2003. */
    private static WineCellar eachSort() {
        WineCellar x = new WineCellar();
        for (int sort = 0; sort < 3; sort++) {
            x.kind(sort, 1, 0, 2, 3);
            x.lot(sort, 2000, 20 * (sort + 1));
            x.put(sort, sort, 1);
        }
        return x;
    }

    /** "in a year not below FROM" */
    private static void notBelowFrom() {
        Checks.due("up to the year below FROM", eachSort().plan(2, 100), 0);
        Checks.due("up to FROM", eachSort().plan(3, 100), 120);
        Checks.due("up to FROM, two a year", eachSort().plan(3, 2), 100);
    }

    /** "and not above UNTIL of their LOT": of a sweet one neither */
    private static void notAboveUntil() {
        Checks.due("up to UNTIL", eachSort().plan(4, 100), 21 + 42 + 63);
        Checks.due("up to the year above UNTIL", eachSort().plan(5, 100), 21 + 42 + 63);
        Checks.due("one a year up to UNTIL", eachSort().plan(4, 1), 40 + 63);
        Checks.due("one a year up to above UNTIL", eachSort().plan(6, 1), 40 + 63);
        WineCellar x = eachSort();
        x.wait(8760 * 4 - 1);
        Checks.due("in UNTIL's last hour", x.plan(6, 100), 21 + 42 + 63);
        x.wait(1);
        Checks.due("above UNTIL", x.plan(6, 100), 0);
    }

    /** "(as these are now)" */
    private static void fromAndUntilAsTheyAreNow() {
        WineCellar x = eachSort();
        x.taste(2, 1);
        Checks.due("one is ready", x.plan(1, 100), 60);
        x.taste(1, 2);
        Checks.due("one is tired", x.plan(6, 100), 21 + 40 + 69);
        x.taste(0, 3);
        Checks.due("one is fine", x.plan(6, 100), 23 + 40 + 69);
        x.taste(0, 0);
        Checks.due("it is young", x.plan(3, 100), 40 + 66);
        Checks.due("it is young, a year later", x.plan(4, 100), 20 + 40 + 69);
    }

    /** "this YEAR first" */
    private static void thisYearFirst() {
        WineCellar x = eachSort();
        x.wait(8760 * 2 - 1);
        Checks.due("the last hour of 2001", x.plan(1, 100), 0);
        x.wait(1);
        Checks.due("the first hour of 2002", x.plan(1, 100), 120);
        x.wait(8760);
        Checks.due("2003", x.plan(1, 100), 126);
    }

    private static void onlyBottlesInCells() {
        WineCellar x = fiveOf();
        x.glass(0);
        Checks.due("one is open", x.plan(1, 100), 80);
        x.sell(0);
        Checks.due("one is sold", x.plan(1, 100), 60);
        x.broken(0);
        Checks.due("one is broken", x.plan(1, 100), 40);
        x.counted(0, 12);
        Checks.due("ten are found", x.plan(1, 100), 240);
        x.counted(0, 0);
        Checks.due("none is left", x.plan(6, 100), 0);
    }

    /** "The most that can come together": neither the dearest first nor year by year. */
    private static void theMostIsNotTheNearest() {
        WineCellar x = new WineCellar();
        x.kind(0, 1, 0, 0, 0);
        x.kind(0, 1, 0, 0, 1);
        x.lot(0, 2000, 90);
        x.lot(1, 2000, 100);
        x.put(0, 1, 1);
        x.put(1, 0, 1);
        Checks.due("the dearer waits for the other", x.plan(2, 1), 90 + 105);
        WineCellar y = new WineCellar();
        y.kind(0, 1, 0, 0, 1);
        y.kind(0, 1, 0, 1, 1);
        y.lot(0, 2000, 100);
        y.lot(1, 2000, 104);
        y.put(0, 0, 1);
        y.put(1, 1, 1);
        Checks.due("the later year is the other's", y.plan(2, 1), 100 + 104);
        WineCellar z = new WineCellar();
        for (int old = 5; old >= 0; old--) {
            z.kind(0, 1, 0, 0, old);
            z.lot(5 - old, 2000, 1000);
            z.put(5 - old, 5 - old, 12);
        }
        Checks.due("each must make room for the next", z.plan(6, 12), 12 * (1000 + 1050 + 1100 + 1150 + 1200 + 1250));
    }

    /** The dearest cellar: 360 bottles at 10,000 each, made fine and old. */
    private static void aFullCellar() {
        WineCellar x = new WineCellar();
        x.kind(2, 1, 0, 0, 60);
        x.lot(0, 1900, 10000);
        for (int i = 0; i < 90; i++) {
            x.taste(0, 3);
        }
        for (int cell = 0; cell < 30; cell++) {
            x.put(cell, 0, 12);
        }
        Checks.due("the greatest plan of 2000", x.plan(6, 100), 100 * (62500 + 62000 + 61500) + 60 * 61000);
        for (int i = 0; i < 10; i++) {
            x.wait(100000);
        }
        Checks.due("the greatest plan of 2114", x.plan(6, 100), 100 * (119500 + 119000 + 118500) + 60 * 118000);
    }

    private static void planChangesNothing() {
        int most = 3 * 66 + 3 * 110;
        Checks.refused("plan(3, 100)", () -> stocked(3), most, x -> x.plan(3, 100));
        WineCellar x = stocked(3);
        x.plan(6, 100);
        x.plan(1, 0);
        Checks.due("a plan behind others", x.plan(3, 100), most);
    }

    /** "NONE for others" */
    private static void whatsOfACount() {
        for (int what : new int[] {-1, 15, 16, MIN, MAX}) {
            Checks.refused("count(" + what + ")", () -> stocked(3), WineCellar.NONE, x -> x.count(what));
        }
        WineCellar x = stocked(3);
        Checks.feed(x, "red+1");
        Checks.due("count(0)", x.count(0), 6);
        Checks.due("count(14)", x.count(14), 20);
    }

    private static void dueCounts(String when, WineCellar x, int... want) {
        for (int what = 0; what < want.length; what++) {
            Checks.due(when + ": count(" + what + ")", x.count(what), want[what]);
        }
    }

    /** "BOUGHT and FOUND ones are in CELLS, open, SOLD, EMPTY or BROKEN": one goes through each. */
    private static void bottlesAreSomewhere() {
        WineCellar x = stocked(3);
        dueCounts("bought", x, 6, 0, 6, 0, 0, 0, 0, 0, 0);
        x.counted(0, 4);
        dueCounts("found", x, 6, 1, 7, 0, 0, 0, 0, 0, 0);
        x.counted(0, 3);
        dueCounts("counted away", x, 6, 1, 6, 0, 0, 0, 1, 0, 0);
        x.broken(0);
        dueCounts("broken", x, 6, 1, 5, 0, 0, 0, 2, 0, 0);
        x.sell(0);
        dueCounts("sold", x, 6, 1, 4, 0, 1, 0, 2, 0, 0);
        x.glass(0);
        dueCounts("opened", x, 6, 1, 3, 1, 1, 0, 2, 1, 0);
        x.wait(48);
        dueCounts("spilt", x, 6, 1, 3, 0, 1, 1, 2, 1, 5);
        for (int i = 0; i < 6; i++) {
            x.glass(1);
        }
        dueCounts("poured to the end", x, 6, 1, 2, 0, 1, 2, 2, 7, 5);
        x.move(1, 5, 2);
        dueCounts("moved", x, 6, 1, 2, 0, 1, 2, 2, 7, 5);
        x.sheet(0);
        Checks.fill(x, 0, 0, 0, 2000, 10, 9, 12);
        x.deliver(0, 0);
        dueCounts("delivered", x, 18, 1, 14, 0, 1, 2, 2, 7, 5, 2, 3, 0, 1, 48, 0);
    }

    /** "What was paid for BOTTLES and GLASSES." */
    private static void paidAlone() {
        WineCellar x = stocked(3);
        Checks.due("bought", x.till(), 0);
        x.sell(0);
        Checks.due("a bottle", x.till(), 100);
        x.glass(1);
        Checks.due("a glass", x.till(), 112);
        x.broken(0);
        x.counted(0, 3);
        x.counted(0, 1);
        x.plan(6, 100);
        x.wait(48);
        x.taste(0, 3);
        x.sell(2);
        Checks.due("nothing that is paid for", x.till(), 112);
        x.wait(8760);
        Checks.due("a bottle a year later", x.sell(0), 105);
        Checks.due("its till", x.till(), 217);
    }
}
