/** The boundary cases of part 1 of the terms and of promises 2 to 6, each sentence by itself. */
public final class LotEdgesTest {
    private static final int MIN = Integer.MIN_VALUE;
    private static final int MAX = Integer.MAX_VALUE;
    private static final int YOUNG = 0;
    private static final int READY = 1;
    private static final int TIRED = 2;
    private static final int FINE = 3;

    public static void main(String[] args) {
        sorts();
        bodies();
        reds();
        youngs();
        olds();
        youngNotAboveOld();
        twentyKinds();
        kindsOfLots();
        vintages();
        prices();
        fromAndUntilAtFirst();
        sixtyLots();
        lotsThatAreNone();
        whatsOfALot();
        hoursOfAYear();
        lastYear();
        worthAtFrom();
        worthCut();
        worthAtUntil();
        worthWhereFromIsUntil();
        halvesForSoManyYears();
        yearsOfWorth();
        youngNotAboveUntil();
        readyIfAbove();
        tiredIfAbove();
        tiredMovesFrom();
        fineIsTwoMore();
        verdicts();
        Checks.end();
    }

    private static WineCellar empty() {
        return new WineCellar();
    }

    /** One kind, good from 0 to 60 years, and one lot of 2000 with a bottle of it in cell 0. */
    private static WineCellar oneLot() {
        WineCellar x = new WineCellar();
        x.kind(0, 3, 1, 0, 60);
        x.lot(0, 2000, 100);
        x.put(0, 0, 1);
        return x;
    }

    private static void noKind(int sort, int body, int red, int young, int old) {
        Checks.refused("kind(" + sort + ", " + body + ", " + red + ", " + young + ", " + old + ")", LotEdgesTest::empty,
                Checks.ARGUMENT, x -> x.kind(sort, body, red, young, old));
    }

    private static void aKind(int sort, int body, int red, int young, int old) {
        WineCellar x = new WineCellar();
        Checks.due("kind(" + sort + ", " + body + ", " + red + ", " + young + ", " + old + ")",
                x.kind(sort, body, red, young, old), 0);
        Checks.due("kinds then", x.count(9), 1);
    }

    /** "of a SORT (0 STILL, 1 FIZZ, 2 SWEET)" */
    private static void sorts() {
        noKind(-1, 3, 1, 2, 10);
        aKind(0, 3, 1, 2, 10);
        aKind(1, 3, 1, 2, 10);
        aKind(2, 3, 1, 2, 10);
        noKind(3, 3, 1, 2, 10);
        noKind(MIN, 3, 1, 2, 10);
        noKind(MAX, 3, 1, 2, 10);
    }

    /** "BODY 1 to 5" */
    private static void bodies() {
        noKind(0, 0, 1, 2, 10);
        aKind(0, 1, 1, 2, 10);
        aKind(0, 5, 1, 2, 10);
        noKind(0, 6, 1, 2, 10);
        noKind(0, -1, 1, 2, 10);
        noKind(0, MIN, 1, 2, 10);
        noKind(0, MAX, 1, 2, 10);
    }

    /** "RED (1) or not (0)" */
    private static void reds() {
        noKind(0, 3, -1, 2, 10);
        aKind(0, 3, 0, 2, 10);
        aKind(0, 3, 1, 2, 10);
        noKind(0, 3, 2, 2, 10);
        noKind(0, 3, MIN, 2, 10);
        noKind(0, 3, MAX, 2, 10);
    }

    /** "YOUNG .. (0 to 60 years ..)" */
    private static void youngs() {
        noKind(0, 3, 1, -1, 10);
        aKind(0, 3, 1, 0, 10);
        aKind(0, 3, 1, 60, 60);
        noKind(0, 3, 1, 61, 60);
        noKind(0, 3, 1, 61, 61);
        noKind(0, 3, 1, MIN, 10);
        noKind(0, 3, 1, MAX, 10);
    }

    /** ".. and OLD (0 to 60 years ..)" */
    private static void olds() {
        noKind(0, 3, 1, 0, -1);
        noKind(0, 3, 1, -1, -1);
        aKind(0, 3, 1, 0, 0);
        aKind(0, 3, 1, 0, 60);
        noKind(0, 3, 1, 0, 61);
        noKind(0, 3, 1, 0, MIN);
        noKind(0, 3, 1, 0, MAX);
    }

    /** "YOUNG not above OLD" */
    private static void youngNotAboveOld() {
        aKind(0, 3, 1, 9, 10);
        aKind(0, 3, 1, 10, 10);
        noKind(0, 3, 1, 11, 10);
        noKind(0, 3, 1, 1, 0);
        noKind(0, 3, 1, 60, 59);
    }

    private static WineCellar kinds(int n) {
        WineCellar x = new WineCellar();
        for (int i = 0; i < n; i++) {
            x.kind(i % 3, 1 + i % 5, i % 2, i, i + 40);
        }
        return x;
    }

    /** "KINDS, numbered from 0 on, 20 at most"; "A KIND: its number; -1: there are 20." */
    private static void twentyKinds() {
        for (int n = 0; n < 20; n++) {
            Checks.due("a kind where there are " + n, kinds(n).kind(0, 1, 0, 0, 0), n);
        }
        Checks.refused("a kind where there are 20", () -> kinds(20), -1, x -> x.kind(0, 1, 0, 0, 0));
        WineCellar x = kinds(20);
        x.kind(0, 1, 0, 0, 0);
        x.lot(19, 2000, 1);
        Checks.due("FROM of the 20th kind", x.told(0, 3), 2019);
        Checks.due("UNTIL of the 20th kind", x.told(0, 4), 2059);
        Checks.dueThrow("a lot of a 21st kind", Checks.INDEX, () -> x.lot(20, 2000, 1));
    }

    /** "IndexOutOfBoundsException: no such KIND" */
    private static void kindsOfLots() {
        Checks.refused("lot(0, ..) without kinds", LotEdgesTest::empty, Checks.INDEX, x -> x.lot(0, 2000, 1));
        for (int kind : new int[] {-1, 3, 19, 20, MIN, MAX}) {
            Checks.refused("lot(" + kind + ", ..) of 3 kinds", () -> kinds(3), Checks.INDEX, x -> x.lot(kind, 2000, 1));
        }
        Checks.due("lot(0, ..) of 3 kinds", kinds(3).lot(0, 2000, 1), 0);
        Checks.due("lot(2, ..) of 3 kinds", kinds(3).lot(2, 2000, 1), 0);
        Checks.refused("the kind comes ahead of the vintage", () -> kinds(3), Checks.INDEX, x -> x.lot(3, 1899, 0));
    }

    private static void lotOf(int vintage, int price, boolean fits) {
        String what = "lot(0, " + vintage + ", " + price + ")";
        if (!fits) {
            Checks.refused(what, LotEdgesTest::oneLot, Checks.ARGUMENT, x -> x.lot(0, vintage, price));
            return;
        }
        WineCellar x = oneLot();
        Checks.due(what, x.lot(0, vintage, price), 1);
        Checks.due(what + ": VINTAGE", x.told(1, 1), vintage);
        Checks.due(what + ": PRICE", x.told(1, 2), price);
        Checks.due(what + ": no bottles yet", x.told(1, 5), 0);
    }

    /** "VINTAGE 1900 to 2100"; "IllegalArgumentException: VINTAGE or PRICE." */
    private static void vintages() {
        lotOf(1899, 50, false);
        lotOf(1900, 50, true);
        lotOf(2100, 50, true);
        lotOf(2101, 50, false);
        lotOf(MIN, 50, false);
        lotOf(MAX, 50, false);
    }

    /** "PRICE 1 to 10,000"; "IllegalArgumentException: VINTAGE or PRICE." */
    private static void prices() {
        lotOf(2000, 0, false);
        lotOf(2000, 1, true);
        lotOf(2000, 10000, true);
        lotOf(2000, 10001, false);
        lotOf(2000, -1, false);
        lotOf(2000, MIN, false);
        lotOf(2000, MAX, false);
    }

    /** "FROM: VINTAGE + YOUNG, and UNTIL: VINTAGE + OLD, at first" */
    private static void fromAndUntilAtFirst() {
        int[][] ages = {{0, 0}, {0, 60}, {60, 60}, {7, 8}};
        for (int[] age : ages) {
            for (int vintage : new int[] {1900, 2100}) {
                WineCellar x = new WineCellar();
                x.kind(0, 1, 0, age[0], age[1]);
                x.lot(0, vintage, 1);
                fromUntil(x, vintage + age[0], vintage + age[1]);
            }
        }
    }

    private static WineCellar lots(int n) {
        WineCellar x = new WineCellar();
        x.kind(0, 1, 0, 0, 60);
        for (int i = 0; i < n; i++) {
            x.lot(0, 1900 + i, 1 + i);
        }
        return x;
    }

    /** "LOTS, numbered from 0 on, 60 at most"; "A LOT (no BOTTLES yet): its number; -1: there are 60." */
    private static void sixtyLots() {
        for (int n = 0; n < 60; n++) {
            Checks.due("a lot where there are " + n, lots(n).lot(0, 2000, 1), n);
        }
        Checks.refused("a lot where there are 60", () -> lots(60), -1, x -> x.lot(0, 2000, 1));
        Checks.due("the 60th lot", lots(60).told(59, 2), 60);
    }

    /** "IndexOutOfBoundsException: no such LOT (so below)" */
    private static void lotsThatAreNone() {
        for (int lot : new int[] {-1, 3, 59, 60, MIN, MAX}) {
            Checks.refused("told(" + lot + ", 0)", () -> lots(3), Checks.INDEX, x -> x.told(lot, 0));
            Checks.refused("worth(" + lot + ", 2000)", () -> lots(3), Checks.INDEX, x -> x.worth(lot, 2000));
            Checks.refused("taste(" + lot + ", 3)", () -> lots(3), Checks.INDEX, x -> x.taste(lot, FINE));
            Checks.refused("put(0, " + lot + ", 1)", () -> lots(3), Checks.INDEX, x -> x.put(0, lot, 1));
            Checks.refused("find(" + lot + ", 0)", () -> lots(3), Checks.INDEX, x -> x.find(lot, 0));
            Checks.refused("glass(" + lot + ")", () -> lots(3), Checks.INDEX, x -> x.glass(lot));
        }
        for (int lot : new int[] {0, 2}) {
            Checks.due("told(" + lot + ", 1)", lots(3).told(lot, 1), 1900 + lot);
            Checks.due("worth(" + lot + ", 1902)", lots(3).worth(lot, 1902), 1 + lot);
            Checks.due("taste(" + lot + ", 3)", lots(3).taste(lot, FINE), 1);
            Checks.due("put(0, " + lot + ", 1)", lots(3).put(0, lot, 1), 1);
            Checks.due("find(" + lot + ", 0)", lots(3).find(lot, 0), -1);
            Checks.due("glass(" + lot + ")", lots(3).glass(lot), -1);
        }
        Checks.dueThrow("told(60, 0) of 60 lots", Checks.INDEX, () -> lots(60).told(60, 0));
    }

    /** "Of a LOT: 0 KIND, .. 7 GLASSES left in these"; "IllegalArgumentException: another what." */
    private static void whatsOfALot() {
        for (int what : new int[] {-1, 8, MIN, MAX}) {
            Checks.refused("told(0, " + what + ")", LotEdgesTest::oneLot, Checks.ARGUMENT, x -> x.told(0, what));
        }
        WineCellar x = oneLot();
        Checks.due("told(0, 0)", x.told(0, 0), 0);
        Checks.due("told(0, 7) without an open one", x.told(0, 7), 0);
        x.glass(0);
        Checks.due("told(0, 5) without a cell", x.told(0, 5), 0);
        Checks.due("told(0, 6)", x.told(0, 6), 1);
        Checks.due("told(0, 7)", x.told(0, 7), 5);
        Checks.refused("the lot comes ahead of the what", LotEdgesTest::oneLot, Checks.INDEX, y -> y.told(1, 8));
    }

    /** The YEAR, by what a bottle of 2000 at 100 is sold for: 5 more each year. */
    private static int yearAt(int hour) {
        WineCellar x = oneLot();
        // UNTIL is 2126 then, above all years that there are.
        for (int i = 0; i < 33; i++) {
            x.taste(0, FINE);
        }
        int left = hour;
        while (left > 0) {
            x.wait(Math.min(left, 100000));
            left -= Math.min(left, 100000);
        }
        return 2000 + (x.sell(0) - 100) / 5;
    }

    /** "HOUR is 0 at first; YEAR: 2000 + HOUR / 8,760, cut" */
    private static void hoursOfAYear() {
        int[][] years = {{0, 2000}, {1, 2000}, {8759, 2000}, {8760, 2001}, {8761, 2001}, {17519, 2001}, {17520, 2002},
            {87599, 2009}, {87600, 2010}};
        for (int[] row : years) {
            Checks.due("YEAR in HOUR " + row[0], yearAt(row[0]), row[1]);
        }
    }

    /** The same at the last hours that there are. */
    private static void lastYear() {
        Checks.due("YEAR in HOUR 998,639", yearAt(998639), 2113);
        Checks.due("YEAR in HOUR 998,640", yearAt(998640), 2114);
        Checks.due("YEAR in HOUR 1,000,000", yearAt(1000000), 2114);
    }

    private static WineCellar sortOf(int sort, int young, int old, int vintage, int price) {
        WineCellar x = new WineCellar();
        x.kind(sort, 1, 0, young, old);
        x.lot(0, vintage, price);
        return x;
    }

    /** "ahead of FROM: PRICE; from FROM to UNTIL: PRICE and y - FROM twentieths of it" */
    private static void worthAtFrom() {
        for (int sort = 0; sort < 3; sort++) {
            WineCellar x = sortOf(sort, 10, 30, 1990, 200);
            Checks.due("worth long ahead of FROM", x.worth(0, 1900), 200);
            Checks.due("worth in VINTAGE", x.worth(0, 1990), 200);
            Checks.due("worth ahead of FROM", x.worth(0, 1999), 200);
            Checks.due("worth in FROM", x.worth(0, 2000), 200);
            Checks.due("worth behind FROM", x.worth(0, 2001), 210);
        }
    }

    /** "together cut" */
    private static void worthCut() {
        WineCellar x = sortOf(2, 0, 60, 2000, 19);
        Checks.due("19 and 0.95", x.worth(0, 2001), 19);
        Checks.due("19 and 1.9", x.worth(0, 2002), 20);
        Checks.due("19 and 18.05", x.worth(0, 2019), 37);
        Checks.due("19 and 19", x.worth(0, 2020), 38);
        Checks.due("19 and 19.95", x.worth(0, 2021), 38);
        WineCellar least = sortOf(2, 0, 60, 2000, 1);
        Checks.due("1 and 0.95", least.worth(0, 2019), 1);
        Checks.due("1 and 1", least.worth(0, 2020), 2);
        Checks.due("1 and 1.95", least.worth(0, 2039), 2);
        Checks.due("1 and 2", least.worth(0, 2040), 3);
    }

    /** "behind UNTIL: of what it was worth in UNTIL: STILL: half of it, cut ..; FIZZ: nothing; SWEET: all" */
    private static void worthAtUntil() {
        int[][] want = {{104, 108, 54, 27, 13}, {104, 108, 0, 0, 0}, {104, 108, 108, 108, 108}};
        for (int sort = 0; sort < 3; sort++) {
            WineCellar x = sortOf(sort, 0, 10, 1995, 72);
            for (int i = 0; i < 5; i++) {
                Checks.due("sort " + sort + " worth in " + (2004 + i), x.worth(0, 2004 + i), want[sort][i]);
            }
        }
    }

    /** The same where YOUNG is OLD. */
    private static void worthWhereFromIsUntil() {
        int[] behind = {37, 0, 75};
        for (int sort = 0; sort < 3; sort++) {
            WineCellar x = sortOf(sort, 5, 5, 1995, 75);
            Checks.due("sort " + sort + " worth ahead", x.worth(0, 1999), 75);
            Checks.due("sort " + sort + " worth in the one year", x.worth(0, 2000), 75);
            Checks.due("sort " + sort + " worth behind", x.worth(0, 2001), behind[sort]);
        }
    }

    /** "STILL: half of it, cut, for each year behind (so often)": through the years where a shift would wrap. */
    private static void halvesForSoManyYears() {
        WineCellar x = sortOf(0, 0, 60, 1900, 10000);
        int worth = 40000;
        for (int year = 1960; year <= 2300; year++) {
            Checks.due("worth in " + year, x.worth(0, year), worth);
            worth /= 2;
        }
        WineCellar one = sortOf(0, 0, 0, 1900, 1);
        Checks.due("half of 1", one.worth(0, 1901), 0);
        Checks.due("half of 1, 32 times", one.worth(0, 1932), 0);
        Checks.due("half of 1, 64 times", one.worth(0, 1964), 0);
    }

    /** "WORTH in a year. IllegalArgumentException: it is not 1900 to 2300." */
    private static void yearsOfWorth() {
        for (int year : new int[] {1899, 2301, 0, -1, MIN, MAX}) {
            Checks.refused("worth(0, " + year + ")", LotEdgesTest::oneLot, Checks.ARGUMENT, x -> x.worth(0, year));
        }
        Checks.due("worth(0, 1900)", oneLot().worth(0, 1900), 100);
        Checks.due("worth(0, 2300)", oneLot().worth(0, 2300), 0);
        Checks.due("worth(0, 2300) of a sweet one", sortOf(2, 0, 60, 2100, 10).worth(0, 2300), 40);
        Checks.refused("the lot comes ahead of the year", LotEdgesTest::oneLot, Checks.INDEX, x -> x.worth(1, 1899));
    }

    private static void fromUntil(WineCellar x, int from, int until) {
        Checks.due("FROM", x.told(0, 3), from);
        Checks.due("UNTIL", x.told(0, 4), until);
    }

    private static void tasted(String what, WineCellar x, int verdict, int want, int from, int until) {
        Checks.due(what, x.taste(0, verdict), want);
        fromUntil(x, from, until);
    }

    /** A still lot with this FROM and UNTIL; the YEAR is 2000. */
    private static WineCellar between(int from, int until) {
        return sortOf(0, from - 1970, until - 1970, 1970, 20);
    }

    /** "YOUNG (0): FROM is one more, but not above UNTIL" */
    private static void youngNotAboveUntil() {
        tasted("YOUNG, UNTIL is two more", between(2003, 2005), YOUNG, 1, 2004, 2005);
        tasted("YOUNG, UNTIL is one more", between(2004, 2005), YOUNG, 1, 2005, 2005);
        tasted("YOUNG, UNTIL is FROM", between(2005, 2005), YOUNG, 0, 2005, 2005);
        tasted("YOUNG long ago", between(1971, 1973), YOUNG, 1, 1972, 1973);
        tasted("YOUNG in this YEAR", between(2000, 2005), YOUNG, 1, 2001, 2005);
    }

    /** "READY (1): FROM is this YEAR, if it was above it" */
    private static void readyIfAbove() {
        tasted("READY, FROM a year below", between(1999, 2005), READY, 0, 1999, 2005);
        tasted("READY, FROM in this YEAR", between(2000, 2005), READY, 0, 2000, 2005);
        tasted("READY, FROM a year above", between(2001, 2005), READY, 1, 2000, 2005);
        tasted("READY, FROM far above", between(2030, 2030), READY, 1, 2000, 2030);
        WineCellar x = between(2002, 2005);
        x.wait(8759);
        tasted("READY in the last hour of 2000", x, READY, 1, 2000, 2005);
        WineCellar y = between(2002, 2005);
        y.wait(8760);
        tasted("READY in the first hour of 2001", y, READY, 1, 2001, 2005);
    }

    /** "TIRED (2): UNTIL is this YEAR, if it was above it" */
    private static void tiredIfAbove() {
        tasted("TIRED, UNTIL a year below", between(1990, 1999), TIRED, 0, 1990, 1999);
        tasted("TIRED, UNTIL in this YEAR", between(1990, 2000), TIRED, 0, 1990, 2000);
        tasted("TIRED, UNTIL a year above", between(1990, 2001), TIRED, 1, 1990, 2000);
        tasted("TIRED, UNTIL far above", between(1990, 2030), TIRED, 1, 1990, 2000);
        WineCellar x = between(1990, 2001);
        x.wait(8760);
        tasted("TIRED in 2001", x, TIRED, 0, 1990, 2001);
    }

    /** ".. and FROM then, too, if it was above it" */
    private static void tiredMovesFrom() {
        tasted("TIRED, FROM a year below", between(1999, 2005), TIRED, 1, 1999, 2000);
        tasted("TIRED, FROM in this YEAR", between(2000, 2005), TIRED, 1, 2000, 2000);
        tasted("TIRED, FROM a year above", between(2001, 2005), TIRED, 1, 2000, 2000);
        tasted("TIRED, both a year above", between(2001, 2001), TIRED, 1, 2000, 2000);
        tasted("TIRED, both in this YEAR", between(2000, 2000), TIRED, 0, 2000, 2000);
    }

    /** "FINE (3): UNTIL is two more" */
    private static void fineIsTwoMore() {
        tasted("FINE", between(1990, 2001), FINE, 1, 1990, 2003);
        tasted("FINE, FROM is UNTIL", between(2000, 2000), FINE, 1, 2000, 2002);
        tasted("FINE long behind UNTIL", between(1970, 1970), FINE, 1, 1970, 1972);
        tasted("FINE above OLD's bound", sortOf(0, 0, 60, 2100, 1), FINE, 1, 2100, 2162);
    }

    /** "IllegalArgumentException: no such verdict (0 to 3)" */
    private static void verdicts() {
        for (int verdict : new int[] {-1, 4, MIN, MAX}) {
            Checks.refused("taste(0, " + verdict + ")", LotEdgesTest::oneLot, Checks.ARGUMENT, x -> x.taste(0, verdict));
        }
        Checks.due("taste(0, 0)", oneLot().taste(0, YOUNG), 1);
        Checks.due("taste(0, 3)", oneLot().taste(0, FINE), 1);
        Checks.refused("the lot comes ahead of the verdict", LotEdgesTest::oneLot, Checks.INDEX, x -> x.taste(1, 4));
    }
}
