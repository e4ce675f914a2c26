/** The boundary cases of part 3 of the terms and of promises 16 to 19, each sentence by itself. */
public final class DishEdgesTest {
    private static final int MIN = Integer.MIN_VALUE;
    private static final int MAX = Integer.MAX_VALUE;

    public static void main(String[] args) {
        twoHundredBytes();
        refusedFeedLeavesTheBytes();
        highestByteFirst();
        bytesOfADish();
        tapeIsEmptyThen();
        refusedDishLeavesTheBytes();
        twentyDishes();
        throwsOfDishInOrder();
        oneTermAtLeast();
        twelveTerms();
        oneToFiveDigits();
        sixthDigit();
        digitsAlone();
        smallLettersAlone();
        wordsAsLongAsTheyStand();
        wordThatCannot();
        blanks();
        onlyByte32IsABlank();
        everyByte();
        endTooEarly();
        signsOfTests();
        signsOfPoints();
        commas();
        textThatIsNone();
        bodyAgainstN();
        ageAgainstN();
        worthAgainstN();
        sortsAndColours();
        greatestSums();
        dishesThatAreNone();
        lotsOfScores();
        matchedOnlyInCells();
        matchedBetweenFromAndUntil();
        greatestScoreFirst();
        thenLeastWorth();
        thenLeastNumber();
        kthMatched();
        Checks.end();
    }

    private static WineCellar fed(int times) {
        WineCellar x = oneLot();
        for (int i = 0; i < times; i++) {
            x.feed(Checks.word("red+", 0), Checks.word("4,  ", 0), Checks.word("    ", 0), Checks.word("    ", 0),
                    Checks.word("    ", 0));
        }
        return x;
    }

    /** A red still lot of 1990 with body 3, good from 1990 to 2050, at 100: its worth is 150. */
    private static WineCellar oneLot() {
        WineCellar x = new WineCellar();
        x.kind(0, 3, 1, 0, 60);
        x.lot(0, 1990, 100);
        return x;
    }

    /** "how many there are; NONE, doing nothing, if there would be more than 200" */
    private static void twoHundredBytes() {
        for (int times = 0; times < 10; times++) {
            Checks.due("feed on " + times * 20, fed(times).feed(1, 2, 3, 4, 5), times * 20 + 20);
        }
        Checks.refused("feed on 200", () -> fed(10), WineCellar.NONE, x -> x.feed(1, 2, 3, 4, 5));
    }

    private static void refusedFeedLeavesTheBytes() {
        WineCellar x = fed(10);
        x.feed(-1, -1, -1, -1, -1);
        Checks.due("ten terms, and a comma at the end", x.dish(200), -2 - 200);
        WineCellar y = fed(10);
        y.feed(-1, -1, -1, -1, -1);
        Checks.due("ten terms", y.dish(185), 0);
        Checks.due("their score", y.score(0, 0), 40);
        Checks.due("feed on the emptied tape", y.feed(1, 2, 3, 4, 5), 20);
    }

    /** "of each number the highest first" */
    private static void highestByteFirst() {
        WineCellar x = oneLot();
        x.feed(0x7265642b, 0x34322c72, 0x65642d31, 0x2c737469, 0x6c6c2b33);
        Checks.due("red+42,red-1,still+3", x.dish(20), 0);
        Checks.due("its score", x.score(0, 0), 44);
        WineCellar y = oneLot();
        y.feed(0x7265642b, 0x31ffff80, 0, 0, 0);
        Checks.due("bytes above 127 can't stand there", y.dish(20), -2 - 5);
    }

    /** "IllegalArgumentException: n is not 0 to the TAPE's bytes" */
    private static void bytesOfADish() {
        Checks.refused("dish(-1) of none", DishEdgesTest::oneLot, Checks.ARGUMENT, x -> x.dish(-1));
        Checks.refused("dish(1) of none", DishEdgesTest::oneLot, Checks.ARGUMENT, x -> x.dish(1));
        Checks.refused("dish(0) of none", DishEdgesTest::oneLot, -2, x -> x.dish(0));
        for (int n : new int[] {-1, 21, 200, MIN, MAX}) {
            Checks.refused("dish(" + n + ") of 20", () -> fed(1), Checks.ARGUMENT, x -> x.dish(n));
        }
        Checks.due("dish(0) of 20", fed(1).dish(0), -2);
        Checks.due("dish(5) of 20", fed(1).dish(5), 0);
        Checks.due("dish(20) of 20", fed(1).dish(20), -2 - 20);
        Checks.refused("dish(201) of 200", () -> fed(10), Checks.ARGUMENT, x -> x.dish(201));
        Checks.due("dish(200) of 200", fed(10).dish(200), -2 - 200);
        Checks.due("dish(199) of 200", fed(10).dish(199), -2 - 199);
    }

    /** "The first n bytes of the TAPE (empty then)" */
    private static void tapeIsEmptyThen() {
        for (int n : new int[] {0, 5, 6, 20}) {
            WineCellar x = fed(3);
            x.dish(n);
            Checks.due("bytes behind dish(" + n + ")", x.count(14), 0);
            Checks.due("feed then", x.feed(1, 2, 3, 4, 5), 20);
        }
        WineCellar x = fed(2);
        x.dish(5);
        Checks.dish(x, "white+9");
        Checks.due("the next dish has its own bytes alone", x.score(1, 0), 0);
    }

    private static void refusedDishLeavesTheBytes() {
        WineCellar x = fed(1);
        Checks.dueThrow("dish(21) of 20", Checks.ARGUMENT, () -> x.dish(21));
        Checks.dueThrow("dish(-1) of 20", Checks.ARGUMENT, () -> x.dish(-1));
        Checks.due("dish(5) then", x.dish(5), 0);
        Checks.due("its score", x.score(0, 0), 4);
    }

    private static WineCellar dishes(int n) {
        WineCellar x = oneLot();
        for (int i = 0; i < n; i++) {
            Checks.due("dish " + i, Checks.dish(x, "red+" + (100 + i)), i);
        }
        Checks.feed(x, "red+1");
        return x;
    }

    /** "DISHES, numbered from 0 on, 20 at most"; "IllegalStateException: there are 20" */
    private static void twentyDishes() {
        Checks.due("the 20th", dishes(19).dish(5), 19);
        Checks.refused("a 21st", () -> dishes(20), Checks.STATE, x -> x.dish(5));
        Checks.refused("a 21st that is none", () -> dishes(20), Checks.STATE, x -> x.dish(4));
        Checks.refused("a 21st of no bytes", () -> dishes(20), Checks.STATE, x -> x.dish(0));
        WineCellar x = dishes(20);
        for (int i = 0; i < 20; i++) {
            Checks.due("score of dish " + i, x.score(i, 0), 100 + i);
        }
    }

    private static void throwsOfDishInOrder() {
        Checks.refused("a 21st of too many bytes", () -> dishes(20), Checks.ARGUMENT, x -> x.dish(21));
        Checks.refused("a 21st of -1 bytes", () -> dishes(20), Checks.ARGUMENT, x -> x.dish(-1));
    }

    private static void place(String text, int place) {
        WineCellar x = oneLot();
        Checks.due("\"" + text + "\"", Checks.dish(x, text), -2 - place);
        Checks.due("\"" + text + "\": dishes then", x.count(11), 0);
        Checks.due("\"" + text + "\": bytes then", x.count(14), 0);
    }

    /** The text is a dish, and scores so for the one lot. */
    private static void scores(String text, int want) {
        WineCellar x = oneLot();
        Checks.due("\"" + text + "\"", Checks.dish(x, text), 0);
        Checks.due("\"" + text + "\" for the lot", x.count(11) == 1 ? x.score(0, 0) : MIN, want);
    }

    /** "TERM { "," TERM }" */
    private static void oneTermAtLeast() {
        place("", 0);
        place(" ", 1);
        place(",", 0);
        scores("red+7", 7);
        scores("red+7,red+8", 15);
    }

    private static String terms(String term, int n) {
        return term + ("," + term).repeat(n - 1);
    }

    /** "At most 12 TERMS."; "the "," ahead of a 13th TERM" */
    private static void twelveTerms() {
        scores(terms("red+1", 11), 11);
        scores(terms("red+1", 12), 12);
        scores(terms("red+1", 12) + "   ", 12);
        place(terms("red+1", 13), 71);
        place(terms("red+1", 12) + ",", 71);
        place(terms("red+1", 12) + "  ,red+1", 73);
        place(terms("red+1", 12) + ",?", 71);
        place(terms("red+1", 12) + "?", 71);
        place(terms("red+1", 11) + ",", 66);
        place(terms("red+1", 11) + ",?", 66);
        place(terms("body<5+12345", 13), 155);
    }

    /** "a NUMBER of one to five digits" */
    private static void oneToFiveDigits() {
        place("red+", 4);
        scores("red+9", 9);
        scores("red+99999", 99999);
        scores("red-99999", -99999);
        scores("red+00000", 0);
        scores("red+00009", 9);
        place("body<", 5);
        place("body<+1", 5);
        scores("body<4+1", 1);
        scores("body<00004+1", 1);
        scores("body<99999+1", 1);
    }

    /** "as many as stand there (a sixth can't)" */
    private static void sixthDigit() {
        place("red+123456", 9);
        place("red+000000", 9);
        place("red+1234567", 9);
        place("red+12345 6", 10);
        place("red+1 2", 6);
        place("body<123456+1", 10);
        place("body<000001+1", 10);
        place("age>1+1,red+999999", 17);
    }

    /** Digits are bytes 48 to 57. */
    private static void digitsAlone() {
        scores("red+0", 0);
        scores("red+9", 9);
        place("red+/", 4);
        place("red+:", 4);
        place("red+1/", 5);
        place("red+1:", 5);
        place("red+\u00b9", 4);
    }

    /** "WORDS are small letters": bytes 97 to 122. */
    private static void smallLettersAlone() {
        scores("age>9+1", 1);
        place("fizz+1,zed+1", 7);
        place("`red+1", 0);
        place("{red+1", 0);
        place("red`+1", 3);
        place("red{+1", 3);
        place("RED+1", 0);
        place("Red+1", 0);
        place("reD+1", 0);
        place("redD+1", 3);
        place("r\u00e9d+1", 0);
    }

    /** ".. as many as stand there" */
    private static void wordsAsLongAsTheyStand() {
        place("redd+1", 0);
        place("redred+1", 0);
        place("redbody<1+1", 0);
        place("sweett+1", 0);
        place("bodyage<1+1", 0);
        place("red+1red+1", 5);
        place("red red+1", 4);
    }

    /** "a WORD that can't: its first byte" */
    private static void wordThatCannot() {
        for (String word : new String[] {"red", "white", "still", "fizz", "sweet", "body", "age", "worth"}) {
            String rest = word.equals("body") || word.equals("age") || word.equals("worth") ? "<1+1" : "+1";
            Checks.due(word, Checks.dish(oneLot(), word + rest), 0);
            place(word.substring(0, word.length() - 1) + rest, 0);
            place(word.substring(1) + rest, 0);
            place(word + "s" + rest, 0);
            place("  " + word.substring(0, word.length() - 1) + "q" + rest, 2);
            place("red+1, q" + word.substring(1) + rest, 7);
            place(word + rest + word, word.length() + rest.length());
            place("red+1," + word.substring(0, word.length() - 1), 6);
        }
        place("a", 0);
        place("blue+1", 0);
        place("red+a", 4);
        place("body<red+1", 5);
        place("body less+1", 5);
    }

    /** "blanks (byte 32) may stand ahead of all these, and at the end" */
    private static void blanks() {
        scores(" red+7", 7);
        scores("red +7", 7);
        scores("red+ 7", 7);
        scores("red+7 ", 7);
        scores("red+7 ,red+1", 8);
        scores("red+7, red+1", 8);
        scores("body <4+7", 7);
        scores("body< 4+7", 7);
        scores("body<4 +7", 7);
        scores("   body   <   4   -   7   ,   red   +   1   ", -6);
        place("re d+1", 0);
        place("body<1 2+1", 7);
    }

    private static void onlyByte32IsABlank() {
        for (int sign : new int[] {0, 9, 10, 13, 31, 33, 95, 160, 255}) {
            String other = String.valueOf((char) sign);
            place(other + "red+1", 0);
            place("red" + other + "+1", 3);
            place("red+" + other + "1", 4);
            place("red+1" + other, 5);
            place("red+1 " + other, 6);
        }
    }

    /** "the first byte that can't stand there": each of the 256, ahead of a text, within it and behind it. */
    private static void everyByte() {
        for (int sign = 0; sign < 256; sign++) {
            String one = String.valueOf((char) sign);
            boolean blank = sign == 32;
            boolean digit = sign >= 48 && sign <= 57;
            boolean letter = sign >= 97 && sign <= 122;
            int way = sign == '+' || sign == '-' ? 1 : 0;
            answers(one + "red+1", blank ? 0 : -2);
            answers("red" + one + "+1", blank ? 0 : -2 - (letter ? 0 : 3 + way));
            answers("red+" + one, digit ? 0 : -2 - (blank ? 5 : 4));
            answers("red+1" + one, blank || digit ? 0 : -2 - (sign == ',' ? 6 : 5));
            answers("body" + one + "3+1", one.matches("[<>=]") ? 0 : -2 - (letter ? 0 : blank ? 5 : 4));
            answers("body<" + one + "+1", digit ? 0 : -2 - (blank ? 6 : 5));
        }
    }

    private static void answers(String text, int want) {
        Checks.due("\"" + text + "\"", Checks.dish(new WineCellar(), text), want);
    }

    /** "the end: its length" */
    private static void endTooEarly() {
        place("red", 3);
        place("red  ", 5);
        place("red+", 4);
        place("red+ ", 5);
        place("red-", 4);
        place("body", 4);
        place("body ", 5);
        place("body<", 5);
        place("body< ", 6);
        place("body<3", 6);
        place("body<3 ", 7);
        place("body<3+", 7);
        place("red+1,", 6);
        place("red+1, ", 7);
        place("red+1,red", 9);
        place(" ".repeat(200), 200);
        place(" ".repeat(197) + "red", 200);
        place(" ".repeat(194) + "red+1,", 200);
        scores(" ".repeat(195) + "red+1", 1);
    }

    /** "one of "body", "age", "worth" with one of < > = and N" */
    private static void signsOfTests() {
        for (String word : new String[] {"body", "age", "worth"}) {
            int end = word.length();
            for (char sign : new char[] {'<', '>', '='}) {
                Checks.due(word + sign, Checks.dish(oneLot(), word + sign + "1+1"), 0);
                place(word + sign + sign + "1+1", end + 1);
                place(word + sign + "-1+1", end + 1);
            }
            for (char sign : new char[] {';', '?', '!', '+', '-', ',', '1'}) {
                place(word + sign + "1+1", end);
            }
        }
        for (String word : new String[] {"red", "white", "still", "fizz", "sweet"}) {
            for (char sign : new char[] {'<', '>', '='}) {
                place(word + sign + "1+1", word.length());
            }
        }
    }

    /** "TEST, then "+" or "-" and N" */
    private static void signsOfPoints() {
        scores("red+3", 3);
        scores("red-3", -3);
        for (char sign : new char[] {'*', ',', '.', '/', '3', '='}) {
            place("red" + sign + "3", 3);
            place("body<4" + sign + "3", sign == '3' ? 8 : 6);
        }
        place("red+-3", 4);
        place("red-+3", 4);
        place("red+3+3", 5);
        place("red+3-3", 5);
    }

    private static void commas() {
        place(",red+1", 0);
        place("red+1,,red+1", 6);
        place("red,+1", 3);
        place("red+,1", 4);
        place("red+1;red+1", 5);
        place("red+1 red+1", 6);
    }

    /** "or -2 less its PLACE": no dish comes, and none of its terms stay. */
    private static void textThatIsNone() {
        WineCellar x = oneLot();
        Checks.due("bad in its 12th term", Checks.dish(x, terms("red+1", 11) + ",red"), -2 - 69);
        Checks.dueThrow("score of none", Checks.ELEMENT, () -> x.score(0, 0));
        Checks.due("a good one", Checks.dish(x, "red+4"), 0);
        Checks.due("its score", x.score(0, 0), 4);
        Checks.due("bad again", Checks.dish(x, "red+1,red+2,red*"), -2 - 15);
        Checks.due("the good one's score", x.score(0, 0), 4);
        Checks.due("the next good one", Checks.dish(x, "red-5"), 1);
        Checks.due("its score", x.score(1, 0), -5);
    }

    /** A test scores 1 where it holds: below, at and above the number that it measures. */
    private static void against(String word, int number) {
        scores(word + "<" + (number - 1) + "+1", 0);
        scores(word + "<" + number + "+1", 0);
        scores(word + "<" + (number + 1) + "+1", 1);
        scores(word + ">" + (number - 1) + "+1", 1);
        scores(word + ">" + number + "+1", 0);
        scores(word + ">" + (number + 1) + "+1", 0);
        scores(word + "=" + (number - 1) + "+1", 0);
        scores(word + "=" + number + "+1", 1);
        scores(word + "=" + (number + 1) + "+1", 0);
    }

    private static void bodyAgainstN() {
        against("body", 3);
    }

    private static int scoreAfter(WineCellar x, int hours, String text) {
        x.wait(hours);
        return x.score(Checks.dish(x, text), 0);
    }

    /** "age is this YEAR less VINTAGE": below 0 for one of a later year. */
    private static void ageAgainstN() {
        against("age", 10);
        Checks.due("age in the year's last hour", scoreAfter(oneLot(), 8759, "age=10+1"), 1);
        Checks.due("age in the next year's first hour", scoreAfter(oneLot(), 8760, "age=11+1"), 1);
        WineCellar x = new WineCellar();
        x.kind(0, 3, 1, 0, 60);
        x.lot(0, 2001, 100);
        String text = "age<0+1,age=0+2,age=1+4,age>0+8,age<1+16";
        Checks.due("age is below 0", scoreAfter(x, 8759, text), 17);
        Checks.due("age is 0", scoreAfter(x, 1, text), 18);
        Checks.due("age is 1", scoreAfter(x, 8760, text), 12);
    }

    /** "worth is WORTH this YEAR" */
    private static void worthAgainstN() {
        against("worth", 150);
        Checks.due("worth in the year's last hour", scoreAfter(oneLot(), 8759, "worth=150+1"), 1);
        Checks.due("worth in the next year's first hour", scoreAfter(oneLot(), 8760, "worth=155+1"), 1);
        WineCellar x = new WineCellar();
        x.kind(1, 3, 1, 0, 0);
        x.lot(0, 1999, 100);
        Checks.due("worth of a fizz behind UNTIL", scoreAfter(x, 0, "worth=0+1,worth<1+2,worth>0+4,worth<0+8"), 3);
    }

    /** ""red", "white", "still", "fizz", "sweet""; "white is not RED" */
    private static void sortsAndColours() {
        for (int sort = 0; sort < 3; sort++) {
            for (int red = 0; red < 2; red++) {
                WineCellar x = new WineCellar();
                x.kind(sort, 1, red, 0, 1);
                x.lot(0, 2000, 1);
                Checks.dish(x, "red+1,white+2,still+4,fizz+8,sweet+16");
                Checks.due("sort " + sort + ", red " + red, x.score(0, 0), (red == 1 ? 1 : 2) + (4 << sort));
            }
        }
    }

    /** "the sum of N (or less it) of all TERMS whose TEST holds" */
    private static void greatestSums() {
        scores(terms("red+99999", 12), 1199988);
        scores(terms("red-99999", 12), -1199988);
        scores("white+1", 0);
        scores("red+5,red+5,red-10", 0);
    }

    /** "NoSuchElementException: no such DISH (so below)" */
    private static void dishesThatAreNone() {
        for (int dish : new int[] {-1, 3, 19, 20, MIN, MAX}) {
            Checks.refused("score(" + dish + ", 0)", () -> dishes(3), Checks.ELEMENT, x -> x.score(dish, 0));
            Checks.refused("match(" + dish + ", 0)", () -> dishes(3), Checks.ELEMENT, x -> x.match(dish, 0));
            Checks.refused("score(" + dish + ", 9)", () -> dishes(3), Checks.ELEMENT, x -> x.score(dish, 9));
        }
        Checks.due("score(0, 0)", dishes(3).score(0, 0), 100);
        Checks.due("score(2, 0)", dishes(3).score(2, 0), 102);
        Checks.due("match(2, 0)", dishes(3).match(2, 0), -1);
        Checks.dueThrow("score(20, 0) of 20 dishes", Checks.ELEMENT, () -> dishes(20).score(20, 0));
        Checks.dueThrow("match(20, 0) of 20 dishes", Checks.ELEMENT, () -> dishes(20).match(20, 0));
    }

    /** "IndexOutOfBoundsException: no such LOT" */
    private static void lotsOfScores() {
        for (int lot : new int[] {-1, 1, 59, 60, MIN, MAX}) {
            Checks.refused("score(0, " + lot + ")", () -> dishes(1), Checks.INDEX, x -> x.score(0, lot));
        }
    }

    private static void order(String when, WineCellar x, int... want) {
        for (int k = 0; k < want.length; k++) {
            Checks.due(when + ": match(0, " + k + ")", x.match(0, k), want[k]);
        }
        Checks.due(when + ": match behind the last", x.match(0, want.length), -1);
    }

    /** One dish and sweet lots of the year 2000 at these prices, a bottle each in the cells from 29 down. */
    private static WineCellar menu(String dish, int... prices) {
        WineCellar x = new WineCellar();
        Checks.dish(x, dish);
        x.kind(2, 1, 0, 0, 0);
        for (int lot = 0; lot < prices.length; lot++) {
            x.lot(0, 2000, prices[lot]);
            x.put(29 - lot, lot, 1);
        }
        return x;
    }

    /** "LOTS of which a BOTTLE lies in a CELL" */
    private static void matchedOnlyInCells() {
        WineCellar x = menu("red+1", 10, 11);
        x.lot(0, 2000, 5);
        order("one lies nowhere", x, 0, 1);
        x.put(0, 2, 1);
        order("it lies in a cell", x, 2, 0, 1);
        x.glass(2);
        order("it is open", x, 0, 1);
        x.sell(29);
        order("one is sold", x, 1);
        x.broken(28);
        order("one is broken", x);
    }

    /** "which are neither below FROM nor above UNTIL this YEAR": not even a sweet one. */
    private static void matchedBetweenFromAndUntil() {
        for (int sort = 0; sort < 3; sort++) {
            WineCellar x = new WineCellar();
            Checks.dish(x, "red+1");
            x.kind(sort, 1, 0, 1, 2);
            x.lot(0, 2000, 40);
            x.put(0, 0, 2);
            order("sort " + sort + " a year below FROM", x);
            x.wait(8759);
            order("sort " + sort + " an hour below FROM", x);
            x.wait(1);
            order("sort " + sort + " in FROM", x, 0);
            x.wait(8760 * 2 - 1);
            order("sort " + sort + " in UNTIL's last hour", x, 0);
            x.wait(1);
            order("sort " + sort + " above UNTIL", x);
        }
    }

    /** "the greatest SCORE first" */
    private static void greatestScoreFirst() {
        order("scores 1, 0, 2 and -1", menu("worth=10+1,worth=30+2,worth=40-1", 10, 20, 30, 40), 2, 0, 1, 3);
        order("scores below 0 alone", menu("worth=10-3,worth=20-1,worth=30-2", 10, 20, 30), 1, 2, 0);
        order("the greatest apart", menu(terms("worth<20+99999", 6) + "," + terms("worth>19-99999", 6), 50, 20, 10),
                2, 1, 0);
    }

    /** "then the least WORTH" */
    private static void thenLeastWorth() {
        order("worth 30, 29, 31", menu("red+1", 30, 29, 31), 1, 0, 2);
        WineCellar x = new WineCellar();
        Checks.dish(x, "red+1");
        x.kind(0, 1, 0, 0, 60);
        x.lot(0, 1960, 20);
        x.lot(0, 2000, 59);
        x.lot(0, 2000, 61);
        for (int lot = 0; lot < 3; lot++) {
            x.put(lot, lot, 1);
        }
        order("the worth of this year, not the price", x, 1, 0, 2);
    }

    /** "then the least number" */
    private static void thenLeastNumber() {
        order("all alike, in cells the other way round", menu("red+1", 7, 7, 7, 7), 0, 1, 2, 3);
        order("pairs alike", menu("red+1", 8, 7, 8, 7), 1, 3, 0, 2);
    }

    /** "The k-th LOT MATCHED with a DISH; NONE." */
    private static void kthMatched() {
        WineCellar x = menu("red+1", 9, 8, 7);
        Checks.due("match(0, 0)", x.match(0, 0), 2);
        Checks.due("match(0, 2)", x.match(0, 2), 0);
        for (int k : new int[] {-1, 3, 60, MIN, MAX}) {
            Checks.due("match(0, " + k + ")", x.match(0, k), -1);
        }
        Checks.due("match where nothing lies", menu("red+1").match(0, 0), -1);
        int[] prices = new int[30];
        int[] want = new int[30];
        for (int i = 0; i < 30; i++) {
            prices[i] = 100 - i;
            want[i] = 29 - i;
        }
        order("a lot in each cell", menu("red+1", prices), want);
    }
}
