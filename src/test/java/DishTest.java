/** Promises 16 to 19: feed, dish, score, match. */
public final class DishTest {
    public static void main(String[] args) {
        feed();
        texts();
        places();
        firstBytesAlone();
        scores();
        scoresInTime();
        matched();
        matchedInTime();
        matchedByWorth();
        matchedOfAllLots();
        Checks.end();
    }

    private static void feed() {
        WineCellar x = new WineCellar();
        for (int i = 1; i <= 10; i++) {
            Checks.due("feed " + i, x.feed(0x7265642b, 0x31202020, 0x20202020, 0x20202020, 0x20202020), i * 20);
        }
        Checks.due("feed 11", x.feed(0, 0, 0, 0, 0), -1);
        Checks.due("bytes", x.count(14), 200);
        Checks.due("the 200 bytes: red+1 .. red", x.dish(200), -2 - 20);
        Checks.due("bytes", x.count(14), 0);
        Checks.due("highest byte first", x.feed(0x7265642b, 0x31ffffff, -1, -1, -1), 20);
        Checks.due("red+1", x.dish(5), 0);
    }

    private static void texts() {
        String[] good = {
            "red+1", "white-0", "still+99999", "fizz-99999", "sweet+00000", "body<3+1", "age>12345-2", "worth=0+7",
            " red+1", "red +1", "red+ 1", "red+1 ", "   body   <   3   +   1   ,   red   -   2   ", "red+1,red+1",
            "body<00003+00001,age>0-1,worth=99999+2",
        };
        WineCellar x = new WineCellar();
        for (int i = 0; i < good.length; i++) {
            Checks.due("\"" + good[i] + "\"", Checks.dish(x, good[i]), i);
        }
    }

    private static void places() {
        Object[][] bad = {
            {"", 0}, {" ", 1}, {"   ", 3}, {",", 0}, {"+1", 0}, {"1", 0}, {"Red+1", 0}, {"rEd+1", 0}, {"re", 0},
            {"re d+1", 0}, {"redd+1", 0}, {"  reds+1", 2}, {"blue", 0}, {"red", 3}, {"red ", 4}, {"red  ?", 5},
            {"red body<3+1", 4}, {"redbody<3+1", 0}, {"red<3+1", 3}, {"red,", 3}, {"red1", 3}, {"red+", 4}, {"red-", 4},
            {"red+ ", 5}, {"red++1", 4}, {"red+-1", 4}, {"red+x", 4}, {"red+1x", 5}, {"red+1 x", 6}, {"red+1red+1", 5},
            {"red+1+1", 5}, {"red+1 2", 6}, {"red+12345", -1}, {"red+123456", 9}, {"red+000001", 9}, {"red+1,", 6},
            {"red+1, ", 7}, {"red+1,,red+1", 6}, {"red+1;red+1", 5}, {"red+1,green+1", 6}, {"red+1,  green+1", 8},
            {"body", 4}, {"body+1", 4}, {"body 3", 5}, {"body<", 5}, {"body< ", 6}, {"body<+1", 5}, {"body<=3+1", 5},
            {"body<<3+1", 5}, {"body<3", 6}, {"body<3 ", 7}, {"body<3,", 6}, {"body<3 4+1", 7}, {"body<123456+1", 10},
            {"body<x+1", 5}, {"body!3+1", 4}, {"bodyx<3+1", 0}, {"age>3+", 6}, {"worth=3-a", 8}, {"worth=3*2", 7},
            {"\tred+1", 0}, {"red\t+1", 3}, {"red+1\0", 5}, {"red\u00ff+1", 3}, {"\u00e9", 0}, {"red+\u00b2", 4},
            {"red+`", 4}, {"red+:1", 4}, {"red+/1", 4}, {"{red+1", 0}, {"`red+1", 0}, {"red{+1", 3}, {"red`+1", 3},
            {"whitered+1", 0}, {"ag>1+1", 0}, {"ted+1", 0}, {"rad+1", 0}, {"rex+1", 0}, {"sorth<1+1", 0}, {"agee>1+1", 0}, {"sweet", 5}, {"still+1,fizz+2,sweet", 20},
        };
        for (Object[] row : bad) {
            String text = (String) row[0];
            int place = (Integer) row[1];
            Checks.due("\"" + text + "\"", Checks.dish(new WineCellar(), text), place < 0 ? 0 : -2 - place);
        }
    }

    private static String times(String term, int n) {
        StringBuilder text = new StringBuilder();
        for (int i = 0; i < n; i++) {
            text.append(i == 0 ? "" : ",").append(term);
        }
        return text.toString();
    }

    private static void firstBytesAlone() {
        WineCellar x = new WineCellar();
        x.kind(0, 1, 1, 0, 1);
        x.lot(0, 2000, 1);
        Checks.feed(x, "red+123, and something else that is no dish");
        Checks.due("the first seven", x.dish(7), 0);
        Checks.due("their score", x.score(0, 0), 123);
        Checks.due("the tape is empty", x.count(14), 0);
        Checks.feed(x, "red+123");
        Checks.due("the first five", x.dish(5), 1);
        Checks.due("their score", x.score(1, 0), 1);
        Checks.feed(x, "red+1");
        Checks.dueThrow("dish(21) of 20", Checks.ARGUMENT, () -> x.dish(21));
        Checks.dueThrow("dish(-1)", Checks.ARGUMENT, () -> x.dish(-1));
        Checks.due("the tape is as before", x.count(14), 20);
        Checks.due("all twenty", x.dish(20), -2 - 5);
        Checks.dueThrow("dish(1) of an empty tape", Checks.ARGUMENT, () -> x.dish(1));
        Checks.due("dish(0) of an empty tape", x.dish(0), -2);
    }

    private static void scores() {
        WineCellar x = new WineCellar();
        x.kind(0, 2, 1, 0, 60);
        x.kind(1, 3, 0, 0, 60);
        x.kind(2, 4, 0, 0, 60);
        for (int kind = 0; kind < 3; kind++) {
            x.lot(kind, 1990, 100);
        }
        Object[][] want = {
            {"red+5", 5, 0, 0}, {"white+5", 0, 5, 5}, {"still+5", 5, 0, 0}, {"fizz+5", 0, 5, 0}, {"sweet+5", 0, 0, 5},
            {"body<3+1", 1, 0, 0}, {"body>3+1", 0, 0, 1}, {"body=3+1", 0, 1, 0}, {"body>1-3,red+1", -2, -3, -3},
            {"red+1,red+2,white-7", 3, -7, -7}, {"body<3 + 1 , sweet - 20", 1, 0, -20},
        };
        for (int i = 0; i < want.length; i++) {
            Checks.dish(x, (String) want[i][0]);
            for (int lot = 0; lot < 3; lot++) {
                Checks.due(want[i][0] + " for " + lot, x.score(i, lot), (Integer) want[i][lot + 1]);
            }
        }
    }

    private static void scoresInTime() {
        WineCellar x = new WineCellar();
        x.kind(0, 2, 1, 0, 2);
        x.lot(0, 2001, 100);
        Checks.dish(x, "age<0+1,age=0+2,age=1+4,age>2+8,worth=100+16,worth=105+32,worth=55+64");
        int[] want = {17, 18, 36, 0, 8 + 64};
        for (int year = 0; year < want.length; year++) {
            Checks.due("score in 200" + year, x.score(0, 0), want[year]);
            x.wait(8760);
        }
    }

    private static void order(WineCellar x, int dish, int... want) {
        for (int k = 0; k < want.length; k++) {
            Checks.due("match(" + dish + ", " + k + ")", x.match(dish, k), want[k]);
        }
        Checks.due("match behind the last", x.match(dish, want.length), -1);
        Checks.due("match(.., -1)", x.match(dish, -1), -1);
        Checks.due("match(.., MAX)", x.match(dish, Integer.MAX_VALUE), -1);
        Checks.due("match(.., MIN)", x.match(dish, Integer.MIN_VALUE), -1);
    }

    private static void matched() {
        WineCellar x = new WineCellar();
        Checks.dish(x, "body=1+1,body=2-1,worth>9+5");
        order(x, 0);
        for (int body = 1; body <= 3; body++) {
            x.kind(2, body, 0, 0, 0);
        }
        x.lot(1, 2000, 3);
        x.lot(2, 2000, 3);
        x.lot(0, 2000, 3);
        x.lot(0, 2000, 2);
        x.lot(0, 2000, 3);
        x.lot(1, 2000, 20);
        order(x, 0);
        for (int lot = 0; lot < 6; lot++) {
            x.put(29 - lot, lot, 1);
        }
        order(x, 0, 5, 3, 2, 4, 1, 0);
        x.glass(3);
        order(x, 0, 5, 2, 4, 1, 0);
        x.broken(29 - 5);
        order(x, 0, 2, 4, 1, 0);
    }

    /** Lots good in 2001 alone: not even the sweet one matches behind it. */
    private static void matchedInTime() {
        WineCellar x = new WineCellar();
        Checks.dish(x, "sweet+1,fizz+2");
        for (int sort = 0; sort < 3; sort++) {
            x.kind(sort, 1, 0, 1, 1);
            x.lot(sort, 2000, 10);
            x.put(sort, sort, 2);
        }
        order(x, 0);
        x.wait(8760);
        order(x, 0, 1, 2, 0);
        x.wait(8760);
        order(x, 0);
        x.taste(0, 3);
        order(x, 0, 0);
    }

    /** The least worth of this year, not the least price. */
    private static void matchedByWorth() {
        WineCellar x = new WineCellar();
        x.kind(0, 1, 0, 0, 60);
        Checks.dish(x, "red+1");
        x.lot(0, 1960, 10);
        x.lot(0, 2000, 20);
        x.lot(0, 1980, 10);
        x.lot(0, 1999, 20);
        for (int lot = 0; lot < 4; lot++) {
            x.put(lot, lot, 2);
        }
        order(x, 0, 1, 2, 3, 0);
    }

    private static void matchedOfAllLots() {
        WineCellar x = new WineCellar();
        x.kind(0, 1, 0, 0, 60);
        Checks.dish(x, "red+1");
        int[] want = new int[30];
        for (int lot = 0; lot < 60; lot++) {
            x.lot(0, 2000, 50 + lot / 3);
            if (lot % 2 == 0) {
                x.put(29 - lot / 2, lot, 1);
                want[lot / 2] = lot;
            }
        }
        order(x, 0, want);
    }
}
