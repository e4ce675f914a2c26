import java.util.Arrays;
import java.util.NoSuchElementException;

/** A wine cellar with its list; what each call promises stands in the project's document. */
public final class WineCellar {
    public static final int NONE = -1;

    private static final int MOST_KINDS = 20;
    private static final int MOST_LOTS = 60;
    private static final int MOST_DISHES = 20;
    private static final int MOST_SHEETS = 4;
    private static final int MOST_TERMS = 12;
    private static final int MOST_OPEN = 60;
    private static final int MOST_YEARS = 6;
    private static final int CELLS = 30;
    private static final int CELL_BOTTLES = 12;

    private static final int STILL = 0;
    private static final int FIZZ = 1;
    private static final int SWEET = 2;
    private static final int[] KEPT_HOURS = {48, 12, 240};
    private static final int GLASSES_A_BOTTLE = 6;

    private static final int FIRST_YEAR = 2000;
    private static final int HOURS_A_YEAR = 8760;
    private static final int LONGEST_WAIT = 100000;
    private static final int LAST_HOUR = 1000000;

    private static final int SHEET_ROWS = 10;
    private static final int ROW_NUMBERS = 40;
    private static final int FIVE = 5;

    private final Kind[] kinds = new Kind[MOST_KINDS];
    private final Lot[] lots = new Lot[MOST_LOTS];
    private final Dish[] dishes = new Dish[MOST_DISHES];
    private final Sheet[] sheets = new Sheet[MOST_SHEETS];
    private final Rack rack = new Rack();
    private final Tape tape = new Tape();
    private final Ledger ledger = new Ledger();
    private final Planner planner = new Planner();
    private final int[] scores = new int[MOST_LOTS];
    private final int[] worths = new int[MOST_LOTS];
    private final boolean[] matched = new boolean[MOST_LOTS];
    private int kindCount = 0;
    private int lotCount = 0;
    private int dishCount = 0;
    private int sheetCount = 0;
    private int hour = 0;

    public WineCellar() {
    }

    public int kind(int sort, int body, int red, int young, int old) throws IllegalArgumentException {
        if (!isWithin(sort, STILL, SWEET) || !isWithin(body, 1, 5) || !isWithin(red, 0, 1)) {
            throw new IllegalArgumentException("no such sort, body or red");
        }
        if (!isWithin(young, 0, 60) || !isWithin(old, 0, 60) || young > old) {
            throw new IllegalArgumentException("no such young and old");
        }
        if (kindCount >= MOST_KINDS) {
            return -1;
        }
        kinds[kindCount] = new Kind(sort, body, red == 1, young, old);
        kindCount++;
        return kindCount - 1;
    }

    public int lot(int kind, int vintage, int price) throws IndexOutOfBoundsException, IllegalArgumentException {
        if (kind < 0 || kind >= kindCount) {
            throw new IndexOutOfBoundsException("no such kind");
        }
        if (!isVintage(vintage) || !isPrice(price)) {
            throw new IllegalArgumentException("no such vintage or price");
        }
        if (lotCount >= MOST_LOTS) {
            return -1;
        }
        return addLot(kind, vintage, price);
    }

    public int told(int lot, int what) throws IndexOutOfBoundsException, IllegalArgumentException {
        Lot one = lotAt(lot);
        switch (what) {
            case 0:
                return one.kindNumber;
            case 1:
                return one.vintage;
            case 2:
                return one.price;
            case 3:
                return one.from;
            case 4:
                return one.until;
            case 5:
                return rack.bottlesOf(lot);
            case 6:
                return one.isOpen() ? 1 : 0;
            case 7:
                return one.glassesLeft;
            default:
                throw new IllegalArgumentException("no such what");
        }
    }

    public int worth(int lot, int year) throws IndexOutOfBoundsException, IllegalArgumentException {
        Lot one = lotAt(lot);
        if (!isWithin(year, 1900, 2300)) {
            throw new IllegalArgumentException("no such year");
        }
        return one.worthIn(year);
    }

    public int taste(int lot, int verdict) throws IndexOutOfBoundsException, IllegalArgumentException {
        Lot one = lotAt(lot);
        int from = one.from;
        int until = one.until;
        switch (verdict) {
            case 0:
                one.tastedYoung();
                break;
            case 1:
                one.tastedReady(yearNow());
                break;
            case 2:
                one.tastedTired(yearNow());
                break;
            case 3:
                one.tastedFine();
                break;
            default:
                throw new IllegalArgumentException("no such verdict");
        }
        return one.from != from || one.until != until ? 1 : 0;
    }

    public int put(int cell, int lot, int bottles)
            throws NoSuchElementException, IndexOutOfBoundsException, IllegalArgumentException {
        requireCell(cell);
        lotAt(lot);
        if (!isWithin(bottles, 1, CELL_BOTTLES)) {
            throw new IllegalArgumentException("no such number of bottles");
        }
        if (!rack.takesLot(cell, lot)) {
            return -1;
        }
        if (!rack.hasRoom(cell, bottles)) {
            return -2;
        }
        rack.add(cell, lot, bottles);
        ledger.bought += bottles;
        return rack.bottles[cell];
    }

    public int move(int from, int to, int bottles) throws NoSuchElementException, IllegalArgumentException {
        requireCell(from);
        requireCell(to);
        if (from == to || bottles < 1) {
            throw new IllegalArgumentException("no such move");
        }
        if (rack.bottles[from] < bottles) {
            return -1;
        }
        int lot = rack.lots[from];
        if (!rack.takesLot(to, lot)) {
            return -2;
        }
        if (!rack.hasRoom(to, bottles)) {
            return -3;
        }
        rack.remove(from, bottles);
        rack.add(to, lot, bottles);
        return rack.bottles[to];
    }

    public int cell(int cell, int what) throws NoSuchElementException, IllegalArgumentException {
        requireCell(cell);
        if (!isWithin(what, 0, 1)) {
            throw new IllegalArgumentException("no such what");
        }
        return what == 0 ? rack.lots[cell] : rack.bottles[cell];
    }

    public int find(int lot, int k) throws IndexOutOfBoundsException {
        lotAt(lot);
        return rack.cellOf(lot, k);
    }

    public int sell(int cell) throws NoSuchElementException {
        requireCell(cell);
        if (rack.isEmpty(cell)) {
            return -1;
        }
        Lot one = lotAt(rack.lots[cell]);
        if (!one.maySellIn(yearNow())) {
            return -2;
        }
        int paid = one.worthIn(yearNow());
        rack.remove(cell, 1);
        ledger.sold++;
        ledger.paid += paid;
        return paid;
    }

    public int broken(int cell) throws NoSuchElementException {
        requireCell(cell);
        if (rack.isEmpty(cell)) {
            return -1;
        }
        rack.remove(cell, 1);
        ledger.broken++;
        return rack.bottles[cell];
    }

    public int counted(int cell, int bottles) throws NoSuchElementException, IllegalArgumentException {
        requireCell(cell);
        if (!isWithin(bottles, 0, CELL_BOTTLES)) {
            throw new IllegalArgumentException("no such number of bottles");
        }
        if (rack.isEmpty(cell)) {
            return -100;
        }
        int more = bottles - rack.bottles[cell];
        if (more > 0) {
            rack.add(cell, rack.lots[cell], more);
            ledger.found += more;
        } else {
            rack.remove(cell, -more);
            ledger.broken -= more;
        }
        return more;
    }

    public int glass(int lot) throws IndexOutOfBoundsException {
        Lot one = lotAt(lot);
        if (!one.maySellIn(yearNow())) {
            return -1;
        }
        if (!one.isOpen()) {
            int cell = rack.cellOf(lot, 0);
            if (cell == NONE) {
                return -2;
            }
            // With 60 lots at most and one open bottle a lot this can't come about; the limit is the document's.
            if (openBottles() >= MOST_OPEN) {
                return -3;
            }
            rack.remove(cell, 1);
            one.open(hour);
        }
        return pour(one);
    }

    public int wait(int hours) throws IllegalArgumentException, IllegalStateException {
        if (!isWithin(hours, 0, LONGEST_WAIT)) {
            throw new IllegalArgumentException("no such number of hours");
        }
        if (hour + hours > LAST_HOUR) {
            throw new IllegalStateException("too late an hour");
        }
        hour += hours;
        for (int i = 0; i < lotCount; i++) {
            if (lots[i].isOverdue(hour)) {
                ledger.spilt += lots[i].glassesLeft;
                ledger.emptied++;
                lots[i].glassesLeft = 0;
            }
        }
        return hour;
    }

    public int feed(int a, int b, int c, int d, int e) {
        if (!tape.hasRoomForFive()) {
            return NONE;
        }
        tape.append(a);
        tape.append(b);
        tape.append(c);
        tape.append(d);
        tape.append(e);
        return tape.length;
    }

    public int dish(int n) throws IllegalArgumentException, IllegalStateException {
        if (!isWithin(n, 0, tape.length)) {
            throw new IllegalArgumentException("no such number of bytes");
        }
        if (dishCount >= MOST_DISHES) {
            throw new IllegalStateException("too many dishes");
        }
        // A text that is none leaves its dish here, to be read into again.
        if (dishes[dishCount] == null) {
            dishes[dishCount] = new Dish();
        }
        int place = tape.readDish(dishes[dishCount], n);
        tape.length = 0;
        if (place != NONE) {
            return -2 - place;
        }
        dishCount++;
        return dishCount - 1;
    }

    public int score(int dish, int lot) throws NoSuchElementException, IndexOutOfBoundsException {
        Dish one = dishAt(dish);
        return one.scoreOf(lotAt(lot), yearNow());
    }

    public int match(int dish, int k) throws NoSuchElementException {
        Dish one = dishAt(dish);
        int year = yearNow();
        for (int i = 0; i < lotCount; i++) {
            matched[i] = lots[i].isGoodIn(year) && rack.cellOf(i, 0) != NONE;
            scores[i] = one.scoreOf(lots[i], year);
            worths[i] = lots[i].worthIn(year);
        }
        for (int i = 0; i < lotCount; i++) {
            if (matched[i] && matchedAhead(i) == k) {
                return i;
            }
        }
        return NONE;
    }

    public int sheet(int width) throws IllegalArgumentException {
        if (!isWithin(width, 0, 2)) {
            throw new IllegalArgumentException("no such width");
        }
        if (sheetCount >= MOST_SHEETS) {
            return -1;
        }
        sheets[sheetCount] = new Sheet(width);
        sheetCount++;
        return sheetCount - 1;
    }

    public int row(int sheet, int k, int n) throws IndexOutOfBoundsException {
        Sheet one = sheetWithRow(sheet, k);
        if (!isWithin(n, 0, ROW_NUMBERS)) {
            return -1;
        }
        one.renewRow(k, n);
        return n;
    }

    public int set(int sheet, int k, int i, long v) throws IndexOutOfBoundsException {
        Sheet one = sheetWithRow(sheet, k);
        if (one.lengths[k] == NONE) {
            return -1;
        }
        if (i < 0 || i >= one.lengths[k]) {
            return -2;
        }
        one.rows[k][i] = one.lowestBits(v);
        return 1;
    }

    public int deliver(int sheet, int k) throws IndexOutOfBoundsException {
        Sheet one = sheetWithRow(sheet, k);
        if (one.lengths[k] == NONE) {
            return -1;
        }
        int came = 0;
        for (int at = 0; at + FIVE <= one.lengths[k]; at += FIVE) {
            if (!takesFive(one.rows[k], at)) {
                break;
            }
            came++;
        }
        return came;
    }

    public int plan(int years, int bottles) throws IllegalArgumentException {
        if (!isWithin(years, 1, MOST_YEARS) || !isWithin(bottles, 0, 100)) {
            throw new IllegalArgumentException("no such years or bottles");
        }
        planner.start(yearNow(), years, bottles);
        int most = 0;
        for (int cell = 0; cell < CELLS; cell++) {
            if (!rack.isEmpty(cell)) {
                most += planner.gainOf(lotAt(rack.lots[cell]), rack.bottles[cell]);
            }
        }
        return most;
    }

    public int count(int what) {
        switch (what) {
            case 0:
                return ledger.bought;
            case 1:
                return ledger.found;
            case 2:
                return rack.allBottles();
            case 3:
                return openBottles();
            case 4:
                return ledger.sold;
            case 5:
                return ledger.emptied;
            case 6:
                return ledger.broken;
            case 7:
                return ledger.poured;
            case 8:
                return ledger.spilt;
            case 9:
                return kindCount;
            case 10:
                return lotCount;
            case 11:
                return dishCount;
            case 12:
                return sheetCount;
            case 13:
                return hour;
            case 14:
                return tape.length;
            default:
                return NONE;
        }
    }

    public long till() {
        return ledger.paid;
    }

    private static boolean isWithin(long number, long least, long most) {
        return number >= least && number <= most;
    }

    private static boolean isVintage(long number) {
        return isWithin(number, 1900, 2100);
    }

    private static boolean isPrice(long number) {
        return isWithin(number, 1, 10000);
    }

    private int yearNow() {
        return FIRST_YEAR + hour / HOURS_A_YEAR;
    }

    private static void requireCell(int cell) {
        if (cell < 0 || cell >= CELLS) {
            throw new NoSuchElementException("no such cell");
        }
    }

    private Lot lotAt(int lot) {
        if (lot < 0 || lot >= lotCount) {
            throw new IndexOutOfBoundsException("no such lot");
        }
        return lots[lot];
    }

    private Dish dishAt(int dish) {
        if (dish < 0 || dish >= dishCount) {
            throw new NoSuchElementException("no such dish");
        }
        return dishes[dish];
    }

    private Sheet sheetWithRow(int sheet, int k) {
        if (sheet < 0 || sheet >= sheetCount || k < 0 || k >= SHEET_ROWS) {
            throw new IndexOutOfBoundsException("no such sheet or row");
        }
        return sheets[sheet];
    }

    /** Only for a kind that there is, and while there is room for a lot. */
    private int addLot(int kind, int vintage, int price) {
        lots[lotCount] = new Lot(kind, kinds[kind], vintage, price);
        lotCount++;
        return lotCount - 1;
    }

    private int openBottles() {
        int open = 0;
        for (int i = 0; i < lotCount; i++) {
            if (lots[i].isOpen()) {
                open++;
            }
        }
        return open;
    }

    private int pour(Lot one) {
        one.glassesLeft--;
        ledger.poured++;
        if (!one.isOpen()) {
            ledger.emptied++;
        }
        int paid = (one.worthIn(yearNow()) + 4) / 5;
        ledger.paid += paid;
        return paid;
    }

    private int matchedAhead(int lot) {
        int ahead = 0;
        for (int i = 0; i < lotCount; i++) {
            if (matched[i] && goesAhead(i, lot)) {
                ahead++;
            }
        }
        return ahead;
    }

    private boolean goesAhead(int lot, int other) {
        if (scores[lot] != scores[other]) {
            return scores[lot] > scores[other];
        }
        if (worths[lot] != worths[other]) {
            return worths[lot] < worths[other];
        }
        return lot < other;
    }

    /** The five numbers from a place on, all of which stand in the row; true if they could be delivered. */
    private boolean takesFive(long[] row, int at) {
        long kind = row[at];
        long vintage = row[at + 1];
        long price = row[at + 2];
        long cell = row[at + 3];
        long bottles = row[at + 4];
        if (!isWithin(kind, 0, kindCount - 1) || !isVintage(vintage) || !isPrice(price)) {
            return false;
        }
        if (!isWithin(cell, 0, CELLS - 1) || !isWithin(bottles, 1, CELL_BOTTLES)) {
            return false;
        }
        if (!rack.isEmpty((int) cell) || lotCount >= MOST_LOTS) {
            return false;
        }
        int lot = addLot((int) kind, (int) vintage, (int) price);
        rack.add((int) cell, lot, (int) bottles);
        ledger.bought += (int) bottles;
        return true;
    }

    private static final class Kind {
        final int sort;
        final int body;
        final boolean red;
        final int young;
        final int old;

        Kind(int sort, int body, boolean red, int young, int old) {
            this.sort = sort;
            this.body = body;
            this.red = red;
            this.young = young;
            this.old = old;
        }
    }

    private static final class Lot {
        final int kindNumber;
        final Kind kind;
        final int vintage;
        final int price;
        int from;
        int until;
        // One open bottle is all a lot can have: another is opened only when none is.
        int openedAt = 0;
        int glassesLeft = 0;

        Lot(int kindNumber, Kind kind, int vintage, int price) {
            this.kindNumber = kindNumber;
            this.kind = kind;
            this.vintage = vintage;
            this.price = price;
            this.from = vintage + kind.young;
            this.until = vintage + kind.old;
        }

        int worthIn(int year) {
            if (year < from) {
                return price;
            }
            int best = price + price * (Math.min(year, until) - from) / 20;
            if (year <= until || kind.sort == SWEET) {
                return best;
            }
            // Above 30 years nothing is left of an int, and a shift would begin anew at 32.
            return kind.sort == FIZZ || year - until > 30 ? 0 : best >> (year - until);
        }

        boolean isGoodIn(int year) {
            return year >= from && year <= until;
        }

        boolean maySellIn(int year) {
            return year >= from && (year <= until || kind.sort == SWEET);
        }

        void tastedYoung() {
            from = Math.min(from + 1, until);
        }

        void tastedReady(int year) {
            from = Math.min(from, year);
        }

        void tastedTired(int year) {
            until = Math.min(until, year);
            from = Math.min(from, until);
        }

        void tastedFine() {
            until += 2;
        }

        boolean isOpen() {
            return glassesLeft > 0;
        }

        void open(int hour) {
            openedAt = hour;
            glassesLeft = GLASSES_A_BOTTLE;
        }

        boolean isOverdue(int hour) {
            return isOpen() && hour - openedAt >= KEPT_HOURS[kind.sort];
        }
    }

    /** The cells; its callers hand it only cells that there are. */
    private static final class Rack {
        final int[] lots = new int[CELLS];
        final int[] bottles = new int[CELLS];

        Rack() {
            Arrays.fill(lots, NONE);
        }

        boolean isEmpty(int cell) {
            return bottles[cell] == 0;
        }

        boolean takesLot(int cell, int lot) {
            return isEmpty(cell) || lots[cell] == lot;
        }

        boolean hasRoom(int cell, int more) {
            return bottles[cell] + more <= CELL_BOTTLES;
        }

        void add(int cell, int lot, int more) {
            lots[cell] = lot;
            bottles[cell] += more;
        }

        void remove(int cell, int fewer) {
            bottles[cell] -= fewer;
            if (bottles[cell] == 0) {
                lots[cell] = NONE;
            }
        }

        int cellOf(int lot, int k) {
            int ahead = 0;
            for (int cell = 0; cell < CELLS; cell++) {
                if (lots[cell] == lot) {
                    if (ahead == k) {
                        return cell;
                    }
                    ahead++;
                }
            }
            return NONE;
        }

        int bottlesOf(int lot) {
            int sum = 0;
            for (int cell = 0; cell < CELLS; cell++) {
                if (lots[cell] == lot) {
                    sum += bottles[cell];
                }
            }
            return sum;
        }

        int allBottles() {
            int sum = 0;
            for (int cell = 0; cell < CELLS; cell++) {
                sum += bottles[cell];
            }
            return sum;
        }
    }

    /** What has come and gone; what lies in cells or is open is counted where it is. */
    private static final class Ledger {
        int bought = 0;
        int found = 0;
        int sold = 0;
        int emptied = 0;
        int broken = 0;
        int poured = 0;
        int spilt = 0;
        long paid = 0;
    }

    private enum Test {
        RED("red", NONE, false),
        WHITE("white", NONE, false),
        IS_STILL("still", STILL, false),
        IS_FIZZ("fizz", FIZZ, false),
        IS_SWEET("sweet", SWEET, false),
        BODY("body", NONE, true),
        AGE("age", NONE, true),
        WORTH("worth", NONE, true);

        final String word;
        final int sort;
        final boolean measures;

        Test(String word, int sort, boolean measures) {
            this.word = word;
            this.sort = sort;
            this.measures = measures;
        }
    }

    private static final class Dish {
        private final Test[] tests = new Test[MOST_TERMS];
        private final int[] signs = new int[MOST_TERMS];
        private final int[] limits = new int[MOST_TERMS];
        private final int[] points = new int[MOST_TERMS];
        private int terms = 0;

        void clear() {
            terms = 0;
        }

        boolean isFull() {
            return terms >= MOST_TERMS;
        }

        void addTerm(Test test, int sign, int limit, int gain) {
            if (isFull()) {
                return;
            }
            tests[terms] = test;
            signs[terms] = sign;
            limits[terms] = limit;
            points[terms] = gain;
            terms++;
        }

        int scoreOf(Lot lot, int year) {
            int sum = 0;
            for (int i = 0; i < terms; i++) {
                if (holds(i, lot, year)) {
                    sum += points[i];
                }
            }
            return sum;
        }

        private boolean holds(int term, Lot lot, int year) {
            Test test = tests[term];
            if (test.measures) {
                return compares(measured(test, lot, year), signs[term], limits[term]);
            }
            if (test == Test.RED) {
                return lot.kind.red;
            }
            if (test == Test.WHITE) {
                return !lot.kind.red;
            }
            return lot.kind.sort == test.sort;
        }

        private static int measured(Test test, Lot lot, int year) {
            if (test == Test.BODY) {
                return lot.kind.body;
            }
            return test == Test.AGE ? year - lot.vintage : lot.worthIn(year);
        }

        private static boolean compares(int number, int sign, int limit) {
            if (sign == '<') {
                return number < limit;
            }
            return sign == '>' ? number > limit : number == limit;
        }
    }

    /**
     * The bytes that were fed, and the reader of dishes over them. Where a text goes wrong the reader
     * stops with its place at the byte that can't stand there, so that this is the place to answer.
     */
    private static final class Tape {
        private static final Test[] TESTS = Test.values();
        private static final int MOST_BYTES = 200;
        private static final int FED_BYTES = 20;
        private static final int MOST_DIGITS = 5;
        private static final int END = -1;

        private final int[] bytes = new int[MOST_BYTES];
        int length = 0;
        private int at = 0;
        private int end = 0;

        boolean hasRoomForFive() {
            return length + FED_BYTES <= MOST_BYTES;
        }

        void append(int number) {
            for (int shift = 24; shift >= 0 && length < MOST_BYTES; shift -= 8) {
                bytes[length] = (number >> shift) & 255;
                length++;
            }
        }

        /** Reads the first n bytes into a dish: NONE, or the place of the byte that can't stand there. */
        int readDish(Dish dish, int n) {
            at = 0;
            end = Math.min(n, length);
            dish.clear();
            for (int term = 0; term < MOST_TERMS; term++) {
                if (!readTerm(dish)) {
                    return at;
                }
                int sign = signHere();
                if (sign == END) {
                    return NONE;
                }
                if (sign != ',' || dish.isFull()) {
                    return at;
                }
                at++;
            }
            return at;
        }

        private boolean readTerm(Dish dish) {
            Test test = readTest();
            if (test == null) {
                return false;
            }
            int sign = END;
            int limit = 0;
            if (test.measures) {
                sign = signHere();
                if (sign != '<' && sign != '>' && sign != '=') {
                    return false;
                }
                at++;
                limit = readNumber();
                if (limit == NONE) {
                    return false;
                }
            }
            return readPoints(dish, test, sign, limit);
        }

        private boolean readPoints(Dish dish, Test test, int sign, int limit) {
            int way = signHere();
            if (way != '+' && way != '-') {
                return false;
            }
            at++;
            int points = readNumber();
            if (points == NONE) {
                return false;
            }
            dish.addTerm(test, sign, limit, way == '+' ? points : -points);
            return true;
        }

        /** The next byte that is no blank, left unread; END behind the last. */
        private int signHere() {
            while (at < end && bytes[at] == ' ') {
                at++;
            }
            return at < end ? bytes[at] : END;
        }

        private Test readTest() {
            signHere();
            int stop = at;
            while (stop < end && bytes[stop] >= 'a' && bytes[stop] <= 'z') {
                stop++;
            }
            for (int i = 0; i < TESTS.length; i++) {
                if (isWord(TESTS[i].word, stop)) {
                    at = stop;
                    return TESTS[i];
                }
            }
            return null;
        }

        private boolean isWord(String word, int stop) {
            if (word.length() != stop - at) {
                return false;
            }
            for (int i = 0; i < word.length(); i++) {
                if (bytes[at + i] != word.charAt(i)) {
                    return false;
                }
            }
            return true;
        }

        /** A sixth digit is left standing: nothing that may follow a number begins with one. */
        private int readNumber() {
            signHere();
            int number = 0;
            int digits = 0;
            while (digits < MOST_DIGITS && at < end && bytes[at] >= '0' && bytes[at] <= '9') {
                number = number * 10 + bytes[at] - '0';
                digits++;
                at++;
            }
            return digits == 0 ? NONE : number;
        }
    }

    private static final class Sheet {
        final long[][] rows = new long[SHEET_ROWS][ROW_NUMBERS];
        final int[] lengths = new int[SHEET_ROWS];
        private final int width;

        Sheet(int width) {
            this.width = width;
            Arrays.fill(lengths, NONE);
        }

        void renewRow(int k, int n) {
            Arrays.fill(rows[k], 0L);
            lengths[k] = n;
        }

        long lowestBits(long number) {
            if (width == 0) {
                return (short) number;
            }
            return width == 1 ? (int) number : number;
        }
    }

    /**
     * The most that can be had of bottles over some years. They come group by group (those of a cell),
     * and what is planned is the best for all that have come: new ones go to years by the chain of
     * moves that gains most, in which each takes the place of another one that moves to the next year
     * of the chain, or is never sold.
     */
    private static final class Planner {
        private static final int UNREACHED = Integer.MIN_VALUE;
        private static final int FORBIDDEN = -1;

        private final int[][] gains = new int[CELLS][MOST_YEARS + 1];
        private final int[][] placed = new int[CELLS][MOST_YEARS + 1];
        private final int[] room = new int[MOST_YEARS + 1];
        private final int[] best = new int[MOST_YEARS + 1];
        private final int[] ahead = new int[MOST_YEARS + 1];
        private final int[][] changes = new int[MOST_YEARS][MOST_YEARS + 1];
        private final int[][] movers = new int[MOST_YEARS][MOST_YEARS + 1];
        private int firstYear = 0;
        private int groups = 0;
        // The place behind the last year stands for never, which has room for all.
        private int never = 0;

        void start(int year, int years, int bottlesAYear) {
            firstYear = year;
            groups = 0;
            never = Math.min(years, MOST_YEARS);
            Arrays.fill(room, bottlesAYear);
            room[never] = CELLS * CELL_BOTTLES;
        }

        /** How much more can be had with these bottles, too. */
        int gainOf(Lot lot, int bottles) {
            if (groups >= CELLS) {
                return 0;
            }
            int group = groups;
            addGroup(lot);
            int more = 0;
            int left = bottles;
            // Each round moves one bottle at least, so there are no more rounds than bottles.
            for (int round = 0; round < bottles && left > 0; round++) {
                findChains(group);
                int last = bestLast();
                if (best[last] <= 0) {
                    break;
                }
                int moved = widthOf(last, left);
                moveAlong(group, last, moved);
                more += moved * best[last];
                left -= moved;
            }
            return more;
        }

        private void addGroup(Lot lot) {
            for (int y = 0; y < never; y++) {
                int year = firstYear + y;
                gains[groups][y] = lot.isGoodIn(year) ? lot.worthIn(year) : FORBIDDEN;
            }
            gains[groups][never] = 0;
            Arrays.fill(placed[groups], 0);
            groups++;
        }

        /** Of each year, the best chain that ends there; one goes on only from a year that is full. */
        private void findChains(int group) {
            for (int y = 0; y <= never; y++) {
                best[y] = gains[group][y] == FORBIDDEN ? UNREACHED : gains[group][y];
                ahead[y] = NONE;
            }
            for (int y = 0; y < never; y++) {
                if (room[y] == 0) {
                    findMovers(y);
                }
            }
            for (int round = 0; round < never; round++) {
                for (int y = 0; y < never; y++) {
                    if (room[y] == 0 && best[y] != UNREACHED) {
                        lengthenFrom(y);
                    }
                }
            }
        }

        private void findMovers(int y) {
            Arrays.fill(movers[y], NONE);
            for (int group = 0; group < groups; group++) {
                if (placed[group][y] > 0) {
                    offerMover(group, y);
                }
            }
        }

        private void offerMover(int group, int y) {
            for (int to = 0; to <= never; to++) {
                int change = gains[group][to] - gains[group][y];
                if (to == y || gains[group][to] == FORBIDDEN) {
                    continue;
                }
                if (movers[y][to] == NONE || change > changes[y][to]) {
                    movers[y][to] = group;
                    changes[y][to] = change;
                }
            }
        }

        private void lengthenFrom(int y) {
            for (int to = 0; to <= never; to++) {
                if (movers[y][to] != NONE && best[y] + changes[y][to] > best[to]) {
                    best[to] = best[y] + changes[y][to];
                    ahead[to] = y;
                }
            }
        }

        private int bestLast() {
            int last = never;
            for (int y = 0; y < never; y++) {
                if (room[y] > 0 && best[y] > best[last]) {
                    last = y;
                }
            }
            return last;
        }

        /** How many bottles can move along a chain at once. */
        private int widthOf(int last, int bottles) {
            int width = Math.min(bottles, room[last]);
            int to = last;
            for (int i = 0; i < never && ahead[to] != NONE; i++) {
                int y = ahead[to];
                width = Math.min(width, placed[movers[y][to]][y]);
                to = y;
            }
            return width;
        }

        private void moveAlong(int group, int last, int bottles) {
            room[last] -= bottles;
            int to = last;
            for (int i = 0; i < never && ahead[to] != NONE; i++) {
                int y = ahead[to];
                placed[movers[y][to]][to] += bottles;
                placed[movers[y][to]][y] -= bottles;
                to = y;
            }
            placed[group][to] += bottles;
        }
    }
}
