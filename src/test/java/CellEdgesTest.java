/** The boundary cases of the cells, in parts 1 and 2 of the terms and in promises 7 to 13, each sentence by itself. */
public final class CellEdgesTest {
    private static final int MIN = Integer.MIN_VALUE;
    private static final int MAX = Integer.MAX_VALUE;

    public static void main(String[] args) {
        cellsThatAreNone();
        firstAndLastCell();
        twelveInACell();
        bottlesToPut();
        anotherLotWherePut();
        putThrowsInOrder();
        movedFromFewer();
        anotherLotWhereMoved();
        twelveWhereMoved();
        sameCell();
        bottlesToMove();
        moveThrowsInOrder();
        emptiedCellTakesAnyLot();
        whatsOfACell();
        kthCell();
        soldOfAnEmptyCell();
        soldBelowFrom();
        soldAboveUntil();
        emptyComesAheadOfTheYear();
        brokenInAnEmptyCell();
        countedBounds();
        countedInAnEmptyCell();
        countedFewerOrMore();
        Checks.end();
    }

    /** Lots 0 and 1, good from 1990 to 2010: five bottles of 0 in cell 0, twelve in cell 29, three of 1 in cell 1. */
    private static WineCellar stocked() {
        WineCellar x = new WineCellar();
        x.kind(0, 1, 0, 0, 20);
        x.lot(0, 1990, 100);
        x.lot(0, 1990, 40);
        x.put(0, 0, 5);
        x.put(29, 0, 12);
        x.put(1, 1, 3);
        return x;
    }

    private static void content(WineCellar x, int cell, int lot, int bottles) {
        Checks.due("lot in cell " + cell, x.cell(cell, 0), lot);
        Checks.due("bottles in cell " + cell, x.cell(cell, 1), bottles);
    }

    /** "CELLS 0 to 29"; "NoSuchElementException: no such CELL (so below)" */
    private static void cellsThatAreNone() {
        for (int cell : new int[] {-1, 30, MIN, MAX}) {
            String told = "(" + cell + ")";
            Checks.refused("put" + told, CellEdgesTest::stocked, Checks.ELEMENT, x -> x.put(cell, 0, 1));
            Checks.refused("move from" + told, CellEdgesTest::stocked, Checks.ELEMENT, x -> x.move(cell, 2, 1));
            Checks.refused("move to" + told, CellEdgesTest::stocked, Checks.ELEMENT, x -> x.move(0, cell, 1));
            Checks.refused("move within" + told, CellEdgesTest::stocked, Checks.ELEMENT, x -> x.move(cell, cell, 1));
            Checks.refused("cell" + told, CellEdgesTest::stocked, Checks.ELEMENT, x -> x.cell(cell, 0));
            Checks.refused("cell" + told + " of no what", CellEdgesTest::stocked, Checks.ELEMENT, x -> x.cell(cell, 2));
            Checks.refused("sell" + told, CellEdgesTest::stocked, Checks.ELEMENT, x -> x.sell(cell));
            Checks.refused("broken" + told, CellEdgesTest::stocked, Checks.ELEMENT, x -> x.broken(cell));
            Checks.refused("counted" + told, CellEdgesTest::stocked, Checks.ELEMENT, x -> x.counted(cell, 1));
            Checks.refused("counted" + told + " of too many", CellEdgesTest::stocked, Checks.ELEMENT,
                    x -> x.counted(cell, 13));
        }
    }

    /** "CELLS 0 to 29": both ends take every call. */
    private static void firstAndLastCell() {
        for (int cell : new int[] {0, 29}) {
            WineCellar x = stocked();
            x.counted(cell, 0);
            Checks.due("put(" + cell + ")", x.put(cell, 0, 6), 6);
            Checks.due("move from " + cell, x.move(cell, 14, 1), 1);
            Checks.due("move to " + cell, x.move(14, cell, 1), 6);
            Checks.due("sell(" + cell + ")", x.sell(cell), 150);
            Checks.due("broken(" + cell + ")", x.broken(cell), 4);
            Checks.due("counted(" + cell + ")", x.counted(cell, 3), -1);
            content(x, cell, 0, 3);
        }
    }

    /** "hold 12 BOTTLES each at most"; "BOTTLES in the CELL then; .. -2: there would be more than 12" */
    private static void twelveInACell() {
        Checks.due("put to the 11th", stocked().put(0, 0, 6), 11);
        Checks.due("put to the 12th", stocked().put(0, 0, 7), 12);
        Checks.refused("put to the 13th", CellEdgesTest::stocked, -2, x -> x.put(0, 0, 8));
        Checks.refused("put one on 12", CellEdgesTest::stocked, -2, x -> x.put(29, 0, 1));
        Checks.refused("put 12 on 12", CellEdgesTest::stocked, -2, x -> x.put(29, 0, 12));
        WineCellar x = stocked();
        x.sell(29);
        Checks.due("put one where one was sold", x.put(29, 0, 1), 12);
    }

    /** "IllegalArgumentException: they are not 1 to 12" */
    private static void bottlesToPut() {
        for (int bottles : new int[] {0, 13, -1, MIN, MAX}) {
            Checks.refused("put(2, 0, " + bottles + ")", CellEdgesTest::stocked, Checks.ARGUMENT, x -> x.put(2, 0, bottles));
        }
        Checks.due("put(2, 0, 1)", stocked().put(2, 0, 1), 1);
        Checks.due("put(2, 0, 12)", stocked().put(2, 0, 12), 12);
    }

    /** "of one LOT"; "-1: another LOT lies there" */
    private static void anotherLotWherePut() {
        Checks.refused("put another lot", CellEdgesTest::stocked, -1, x -> x.put(0, 1, 1));
        Checks.refused("put too many of another lot", CellEdgesTest::stocked, -1, x -> x.put(0, 1, 12));
        Checks.refused("put another lot on 12", CellEdgesTest::stocked, -1, x -> x.put(29, 1, 1));
        Checks.refused("put lot 0 on lot 1", CellEdgesTest::stocked, -1, x -> x.put(1, 0, 1));
        Checks.due("put the same lot", stocked().put(1, 1, 1), 4);
    }

    /** The exceptions of put in the order in which they stand, all ahead of the answers below 0. */
    private static void putThrowsInOrder() {
        Checks.refused("no cell, no lot, no bottles", CellEdgesTest::stocked, Checks.ELEMENT, x -> x.put(30, 2, 0));
        Checks.refused("no lot, no bottles", CellEdgesTest::stocked, Checks.INDEX, x -> x.put(0, 2, 0));
        Checks.refused("no bottles on another lot", CellEdgesTest::stocked, Checks.ARGUMENT, x -> x.put(0, 1, 0));
        Checks.refused("13 bottles on 12", CellEdgesTest::stocked, Checks.ARGUMENT, x -> x.put(29, 0, 13));
    }

    /** "BOTTLES in the other CELL then; -1: it has fewer" */
    private static void movedFromFewer() {
        WineCellar x = stocked();
        Checks.due("move all five", x.move(0, 2, 5), 5);
        content(x, 0, -1, 0);
        content(x, 2, 0, 5);
        Checks.due("move four of five", stocked().move(0, 2, 4), 4);
        Checks.refused("move six of five", CellEdgesTest::stocked, -1, y -> y.move(0, 2, 6));
        Checks.refused("move one of none", CellEdgesTest::stocked, -1, y -> y.move(2, 0, 1));
        Checks.refused("move one of none to none", CellEdgesTest::stocked, -1, y -> y.move(2, 3, 1));
        Checks.refused("move 13 of 12", CellEdgesTest::stocked, -1, y -> y.move(29, 2, 13));
        Checks.due("move 12 of 12", stocked().move(29, 2, 12), 12);
        Checks.refused("move the most", CellEdgesTest::stocked, -1, y -> y.move(0, 2, MAX));
        Checks.refused("fewer comes ahead of another lot", CellEdgesTest::stocked, -1, y -> y.move(0, 1, 6));
        Checks.refused("fewer comes ahead of more than 12", CellEdgesTest::stocked, -1, y -> y.move(0, 29, 6));
    }

    /** "-2: another LOT lies there" */
    private static void anotherLotWhereMoved() {
        Checks.refused("move to another lot", CellEdgesTest::stocked, -2, x -> x.move(0, 1, 1));
        Checks.refused("move all to another lot", CellEdgesTest::stocked, -2, x -> x.move(1, 0, 3));
        Checks.refused("another lot comes ahead of more than 12", CellEdgesTest::stocked, -2, x -> x.move(29, 1, 12));
        Checks.due("move to the same lot", stocked().move(29, 0, 1), 6);
    }

    /** "-3: there would be more than 12" */
    private static void twelveWhereMoved() {
        WineCellar x = stocked();
        Checks.due("move to the 12th", x.move(29, 0, 7), 12);
        content(x, 29, 0, 5);
        Checks.due("move to the 11th", stocked().move(29, 0, 6), 11);
        Checks.refused("move to the 13th", CellEdgesTest::stocked, -3, y -> y.move(29, 0, 8));
        Checks.refused("move one on 12", CellEdgesTest::stocked, -3, y -> y.move(0, 29, 1));
        Checks.refused("move all on 12", CellEdgesTest::stocked, -3, y -> y.move(0, 29, 5));
    }

    /** "IllegalArgumentException: both are the same" */
    private static void sameCell() {
        for (int cell : new int[] {0, 2, 29}) {
            Checks.refused("move(" + cell + ", " + cell + ", 1)", CellEdgesTest::stocked, Checks.ARGUMENT,
                    x -> x.move(cell, cell, 1));
        }
        Checks.due("move(0, 2, 1) to another one", stocked().move(0, 2, 1), 1);
    }

    /** "or BOTTLES are below 1" */
    private static void bottlesToMove() {
        for (int bottles : new int[] {0, -1, MIN}) {
            Checks.refused("move(0, 2, " + bottles + ")", CellEdgesTest::stocked, Checks.ARGUMENT,
                    x -> x.move(0, 2, bottles));
            Checks.refused("move(2, 0, " + bottles + ") of none", CellEdgesTest::stocked, Checks.ARGUMENT,
                    x -> x.move(2, 0, bottles));
        }
        Checks.due("move(0, 2, 1)", stocked().move(0, 2, 1), 1);
    }

    private static void moveThrowsInOrder() {
        Checks.refused("no other cell, no bottles", CellEdgesTest::stocked, Checks.ELEMENT, x -> x.move(0, 30, 0));
        Checks.refused("no first cell, no bottles", CellEdgesTest::stocked, Checks.ELEMENT, x -> x.move(30, 0, 0));
        Checks.refused("no bottles to another lot", CellEdgesTest::stocked, Checks.ARGUMENT, x -> x.move(0, 1, 0));
    }

    /** "NONE: it is empty": what took the last bottle of a cell leaves it free for another lot. */
    private static void emptiedCellTakesAnyLot() {
        for (int way = 0; way < 5; way++) {
            WineCellar x = stocked();
            x.put(4, 0, 1);
            takeOne(x, way);
            content(x, 4, -1, 0);
            Checks.due("put another lot behind way " + way, x.put(4, 1, 2), 2);
            content(x, 4, 1, 2);
            Checks.due("find it there", x.find(1, 1), 4);
        }
        WineCellar x = stocked();
        x.put(4, 0, 2);
        x.sell(4);
        content(x, 4, 0, 1);
        Checks.due("put another lot on the last one", x.put(4, 1, 2), -1);
    }

    private static void takeOne(WineCellar x, int way) {
        switch (way) {
            case 0: x.sell(4); break;
            case 1: x.broken(4); break;
            case 2: x.counted(4, 0); break;
            case 3: x.move(4, 0, 1); break;
            default:
                x.counted(0, 0);
                x.glass(0);
                break;
        }
    }

    /** "Of a CELL: 0 its LOT (NONE: it is empty), 1 BOTTLES. IllegalArgumentException: another what." */
    private static void whatsOfACell() {
        content(stocked(), 0, 0, 5);
        content(stocked(), 1, 1, 3);
        content(stocked(), 2, WineCellar.NONE, 0);
        content(stocked(), 29, 0, 12);
        for (int what : new int[] {-1, 2, MIN, MAX}) {
            Checks.refused("cell(0, " + what + ")", CellEdgesTest::stocked, Checks.ARGUMENT, x -> x.cell(0, what));
            Checks.refused("cell(2, " + what + ")", CellEdgesTest::stocked, Checks.ARGUMENT, x -> x.cell(2, what));
        }
    }

    /** "The k-th CELL in which a LOT lies; NONE." */
    private static void kthCell() {
        WineCellar x = stocked();
        Checks.due("find(0, 0)", x.find(0, 0), 0);
        Checks.due("find(0, 1)", x.find(0, 1), 29);
        Checks.due("find(0, 2)", x.find(0, 2), -1);
        Checks.due("find(1, 0)", x.find(1, 0), 1);
        Checks.due("find(1, 1)", x.find(1, 1), -1);
        for (int k : new int[] {-1, 30, MIN, MAX}) {
            Checks.due("find(0, " + k + ")", x.find(0, k), -1);
        }
        x.counted(1, 0);
        Checks.due("find of a lot that lies nowhere", x.find(1, 0), -1);
        for (int cell = 1; cell < 29; cell++) {
            x.put(cell, 0, 1);
        }
        for (int k = 0; k < 30; k++) {
            Checks.due("find(0, " + k + ") where it lies everywhere", x.find(0, k), k);
        }
        Checks.due("find(0, 30) where it lies everywhere", x.find(0, 30), -1);
    }

    /** "-1: the CELL is empty" */
    private static void soldOfAnEmptyCell() {
        Checks.refused("sell of an empty cell", CellEdgesTest::stocked, -1, x -> x.sell(2));
        WineCellar x = stocked();
        for (int left = 2; left >= 0; left--) {
            Checks.due("sell with " + left + " left", x.sell(1), 60);
            Checks.due("bottles", x.cell(1, 1), left);
        }
        Checks.due("sell with none left", x.sell(1), -1);
        Checks.due("sold", x.count(4), 3);
        Checks.due("till", x.till(), 180);
    }

    /** A bottle of a sort, good from 2002 to 2004, the years gone by since 2000. */
    private static WineCellar agedBottle(int sort, int years) {
        WineCellar x = new WineCellar();
        x.kind(sort, 1, 0, 2, 4);
        x.lot(0, 2000, 40);
        x.put(3, 0, 2);
        if (years > 0) {
            x.wait(8760 * years - 1);
            x.wait(1);
        }
        return x;
    }

    /** "none in one below FROM"; "-2: below FROM ..": the last hour ahead of it, and its first. */
    private static void soldBelowFrom() {
        for (int sort = 0; sort < 3; sort++) {
            int one = sort;
            Checks.refused("sort " + sort + " a year below FROM", () -> agedBottle(one, 1), -2, x -> x.sell(3));
            WineCellar x = agedBottle(sort, 1);
            x.wait(8759);
            Checks.due("sort " + sort + " an hour below FROM", x.sell(3), -2);
            x.wait(1);
            Checks.due("sort " + sort + " in FROM", x.sell(3), 40);
        }
    }

    /** "A STILL or FIZZ is not sold .. in a YEAR above UNTIL"; "-2: .. or above UNTIL" */
    private static void soldAboveUntil() {
        for (int sort = 0; sort < 2; sort++) {
            int one = sort;
            WineCellar x = agedBottle(sort, 4);
            x.wait(8759);
            Checks.due("sort " + sort + " in UNTIL's last hour", x.sell(3), 44);
            x.wait(1);
            Checks.due("sort " + sort + " above UNTIL", x.sell(3), -2);
            Checks.refused("sort " + sort + " a year above UNTIL", () -> agedBottle(one, 5), -2, y -> y.sell(3));
        }
        Checks.due("a sweet one in UNTIL", agedBottle(2, 4).sell(3), 44);
        Checks.due("a sweet one above UNTIL", agedBottle(2, 5).sell(3), 44);
        Checks.due("a sweet one far above UNTIL", agedBottle(2, 11).sell(3), 44);
    }

    private static void emptyComesAheadOfTheYear() {
        Checks.due("sell of an empty cell below FROM", agedBottle(0, 0).sell(2), -1);
        WineCellar x = agedBottle(0, 0);
        x.counted(3, 0);
        Checks.due("sell of an emptied cell below FROM", x.sell(3), -1);
    }

    /** "BROKEN: BOTTLES left in the CELL; -1: it was empty." */
    private static void brokenInAnEmptyCell() {
        Checks.refused("broken in an empty cell", CellEdgesTest::stocked, -1, x -> x.broken(2));
        WineCellar x = stocked();
        for (int left = 2; left >= 0; left--) {
            Checks.due("broken", x.broken(1), left);
        }
        Checks.due("broken with none left", x.broken(1), -1);
        Checks.due("broken in all", x.count(6), 3);
        Checks.due("one below FROM breaks, too", agedBottle(0, 0).broken(3), 1);
        Checks.due("one above UNTIL breaks, too", agedBottle(1, 5).broken(3), 1);
    }

    /** "IllegalArgumentException: they are not 0 to 12." */
    private static void countedBounds() {
        for (int bottles : new int[] {-1, 13, MIN, MAX}) {
            Checks.refused("counted(0, " + bottles + ")", CellEdgesTest::stocked, Checks.ARGUMENT,
                    x -> x.counted(0, bottles));
            Checks.refused("counted(2, " + bottles + ") of none", CellEdgesTest::stocked, Checks.ARGUMENT,
                    x -> x.counted(2, bottles));
        }
        Checks.due("counted(0, 0)", stocked().counted(0, 0), -5);
        Checks.due("counted(0, 12)", stocked().counted(0, 12), 7);
    }

    /** "-100, doing nothing: it is empty" */
    private static void countedInAnEmptyCell() {
        for (int bottles : new int[] {0, 1, 12}) {
            Checks.refused("counted(2, " + bottles + ")", CellEdgesTest::stocked, -100, x -> x.counted(2, bottles));
        }
        WineCellar x = stocked();
        Checks.due("counted none", x.counted(0, 0), -5);
        Checks.due("counted none again", x.counted(0, 0), -100);
        Checks.due("counted five again", x.counted(0, 5), -100);
        Checks.due("found", x.count(1), 0);
        Checks.due("broken", x.count(6), 5);
    }

    /** "how many more (or fewer, below 0) than told"; "fewer are BROKEN, more are FOUND" */
    private static void countedFewerOrMore() {
        for (int bottles = 0; bottles <= 12; bottles++) {
            WineCellar x = stocked();
            String told = "counted " + bottles + " of five: ";
            Checks.due(told + "answer", x.counted(0, bottles), bottles - 5);
            Checks.due(told + "lot", x.cell(0, 0), bottles == 0 ? -1 : 0);
            Checks.due(told + "bottles", x.cell(0, 1), bottles);
            Checks.due(told + "found", x.count(1), Math.max(bottles - 5, 0));
            Checks.due(told + "broken", x.count(6), Math.max(5 - bottles, 0));
            Checks.due(told + "bought", x.count(0), 20);
            Checks.due(told + "in cells", x.count(2), 15 + bottles);
        }
        WineCellar x = stocked();
        x.counted(0, 7);
        x.counted(1, 4);
        Checks.due("found in two cells", x.count(1), 3);
        x.counted(0, 4);
        x.counted(1, 2);
        Checks.due("broken in two cells", x.count(6), 5);
        Checks.due("found as before", x.count(1), 3);
    }
}
