import java.util.ArrayList;
import java.util.Arrays;
import java.util.Comparator;
import java.util.List;
import java.util.NoSuchElementException;
import java.util.regex.Matcher;
import java.util.regex.Pattern;

/** The document's words once more, bottle by bottle and slowly: what AnyCallsTest holds the class against. */
public final class Model {
    private enum Where { CELL, OPEN, SOLD, EMPTY, BROKEN }

    private record Kind(int sort, int body, int red, int young, int old) { }

    private record Term(String word, String sign, int limit, int points) { }

    private static final class Lot {
        int kind;
        int vintage;
        int price;
        int from;
        int until;
    }

    private static final class Bottle {
        int lot;
        boolean found;
        Where where = Where.CELL;
        int cell;
        int openedAt;
        int glasses = 6;
    }

    private static final Pattern TOKEN = Pattern.compile(" *([a-z]+|[0-9]{1,5}|[^ ])", Pattern.DOTALL);
    private static final List<String> PLAIN = List.of("red", "white", "still", "fizz", "sweet");
    private static final List<String> MEASURES = List.of("body", "age", "worth");

    private static final int UNREACHED = Integer.MIN_VALUE;

    private final List<Kind> kinds = new ArrayList<>();
    private final List<Lot> lots = new ArrayList<>();
    private final List<Bottle> bottles = new ArrayList<>();
    private final List<List<Term>> dishes = new ArrayList<>();
    private final List<Integer> widths = new ArrayList<>();
    private final long[][][] rows = new long[4][10][];
    private final StringBuilder tape = new StringBuilder();
    private int hour = 0;
    private int poured = 0;
    private int spilt = 0;
    private long paid = 0;

    public int kind(int sort, int body, int red, int young, int old) {
        argument(between(sort, 0, 2) && between(body, 1, 5) && between(red, 0, 1));
        argument(between(young, 0, 60) && between(old, 0, 60) && young <= old);
        if (kinds.size() == 20) {
            return -1;
        }
        kinds.add(new Kind(sort, body, red, young, old));
        return kinds.size() - 1;
    }

    public int lot(int kind, int vintage, int price) {
        index(between(kind, 0, kinds.size() - 1));
        argument(between(vintage, 1900, 2100) && between(price, 1, 10000));
        if (lots.size() == 60) {
            return -1;
        }
        Lot lot = new Lot();
        lot.kind = kind;
        lot.vintage = vintage;
        lot.price = price;
        lot.from = vintage + kinds.get(kind).young;
        lot.until = vintage + kinds.get(kind).old;
        lots.add(lot);
        return lots.size() - 1;
    }

    public int told(int lot, int what) {
        Lot one = lotAt(lot);
        argument(between(what, 0, 7));
        List<Bottle> open = bottlesOf(lot, Where.OPEN);
        int[] all = {one.kind, one.vintage, one.price, one.from, one.until, bottlesOf(lot, Where.CELL).size(), open.size(),
            open.stream().mapToInt(b -> b.glasses).sum()};
        return all[what];
    }

    public int worth(int lot, int year) {
        Lot one = lotAt(lot);
        argument(between(year, 1900, 2300));
        return worthIn(one, year);
    }

    public int taste(int lot, int verdict) {
        Lot one = lotAt(lot);
        argument(between(verdict, 0, 3));
        int from = one.from;
        int until = one.until;
        if (verdict == 0 && one.from < one.until) {
            one.from++;
        } else if (verdict == 1 && one.from > year()) {
            one.from = year();
        } else if (verdict == 2 && one.until > year()) {
            one.until = year();
            one.from = one.from > year() ? year() : one.from;
        } else if (verdict == 3) {
            one.until += 2;
        }
        return from == one.from && until == one.until ? 0 : 1;
    }

    public int put(int cell, int lot, int n) {
        element(between(cell, 0, 29));
        lotAt(lot);
        argument(between(n, 1, 12));
        List<Bottle> there = in(cell);
        if (!there.isEmpty() && there.get(0).lot != lot) {
            return -1;
        }
        if (there.size() + n > 12) {
            return -2;
        }
        comeTo(cell, lot, n, false);
        return in(cell).size();
    }

    public int move(int from, int to, int n) {
        element(between(from, 0, 29) && between(to, 0, 29));
        argument(from != to && n >= 1);
        List<Bottle> here = in(from);
        List<Bottle> there = in(to);
        if (here.size() < n) {
            return -1;
        }
        if (!there.isEmpty() && there.get(0).lot != here.get(0).lot) {
            return -2;
        }
        if (there.size() + n > 12) {
            return -3;
        }
        here.subList(0, n).forEach(b -> b.cell = to);
        return in(to).size();
    }

    public int cell(int cell, int what) {
        element(between(cell, 0, 29));
        argument(between(what, 0, 1));
        List<Bottle> there = in(cell);
        return what == 1 ? there.size() : there.isEmpty() ? -1 : there.get(0).lot;
    }

    public int find(int lot, int k) {
        lotAt(lot);
        int[] cells = bottlesOf(lot, Where.CELL).stream().mapToInt(b -> b.cell).distinct().sorted().toArray();
        return between(k, 0, cells.length - 1) ? cells[k] : -1;
    }

    public int sell(int cell) {
        element(between(cell, 0, 29));
        if (in(cell).isEmpty()) {
            return -1;
        }
        Bottle bottle = in(cell).get(0);
        if (!isDrunk(lots.get(bottle.lot))) {
            return -2;
        }
        bottle.where = Where.SOLD;
        paid += worthIn(lots.get(bottle.lot), year());
        return worthIn(lots.get(bottle.lot), year());
    }

    public int broken(int cell) {
        element(between(cell, 0, 29));
        if (in(cell).isEmpty()) {
            return -1;
        }
        in(cell).get(0).where = Where.BROKEN;
        return in(cell).size();
    }

    public int counted(int cell, int n) {
        element(between(cell, 0, 29));
        argument(between(n, 0, 12));
        List<Bottle> there = in(cell);
        if (there.isEmpty()) {
            return -100;
        }
        for (int i = n; i < there.size(); i++) {
            there.get(i).where = Where.BROKEN;
        }
        comeTo(cell, there.get(0).lot, n - there.size(), true);
        return n - there.size();
    }

    public int glass(int lot) {
        Lot one = lotAt(lot);
        if (!isDrunk(one)) {
            return -1;
        }
        List<Bottle> open = bottlesOf(lot, Where.OPEN);
        if (open.isEmpty() && find(lot, 0) < 0) {
            return -2;
        }
        if (open.isEmpty() && all(Where.OPEN) == 60) {
            return -3;
        }
        Bottle bottle = open.isEmpty() ? in(find(lot, 0)).get(0) : open.get(0);
        if (bottle.where == Where.CELL) {
            bottle.openedAt = hour;
        }
        bottle.glasses--;
        bottle.where = bottle.glasses == 0 ? Where.EMPTY : Where.OPEN;
        poured++;
        int price = worthIn(one, year()) / 5 + (worthIn(one, year()) % 5 == 0 ? 0 : 1);
        paid += price;
        return price;
    }

    /** Hour by hour would be too slow: a bottle that must end is looked for once. */
    public int wait(int hours) {
        argument(between(hours, 0, 100000));
        if (hour + hours > 1000000) {
            throw new IllegalStateException();
        }
        hour += hours;
        for (Bottle bottle : bottles) {
            int kept = List.of(48, 12, 240).get(kinds.get(lots.get(bottle.lot).kind).sort);
            if (bottle.where == Where.OPEN && hour >= bottle.openedAt + kept) {
                bottle.where = Where.EMPTY;
                spilt += bottle.glasses;
            }
        }
        return hour;
    }

    public int feed(int a, int b, int c, int d, int e) {
        if (tape.length() + 20 > 200) {
            return -1;
        }
        for (int number : new int[] {a, b, c, d, e}) {
            for (byte one : java.nio.ByteBuffer.allocate(4).putInt(number).array()) {
                tape.append((char) Byte.toUnsignedInt(one));
            }
        }
        return tape.length();
    }

    public int dish(int n) {
        argument(between(n, 0, tape.length()));
        if (dishes.size() == 20) {
            throw new IllegalStateException();
        }
        String text = tape.substring(0, n);
        tape.setLength(0);
        List<Term> terms = new ArrayList<>();
        int place = read(text, terms);
        if (place >= 0) {
            return -2 - place;
        }
        dishes.add(terms);
        return dishes.size() - 1;
    }

    /** Token by token, with what must come next; answers the place of what can't, or -1. */
    private static int read(String text, List<Term> terms) {
        Matcher token = TOKEN.matcher(text);
        String next = "test";
        String[] term = {"", "", "0", ""};
        int at = 0;
        while (token.find(at)) {
            String one = token.group(1);
            at = token.end();
            boolean number = one.matches("[0-9]+");
            if (next.equals("test") && (PLAIN.contains(one) || MEASURES.contains(one))) {
                term = new String[] {one, "", "0", ""};
                next = PLAIN.contains(one) ? "way" : "sign";
            } else if (next.equals("sign") && one.matches("[<>=]")) {
                term[1] = one;
                next = "limit";
            } else if (next.equals("limit") && number) {
                term[2] = one;
                next = "way";
            } else if (next.equals("way") && one.matches("[-+]")) {
                term[3] = one;
                next = "points";
            } else if (next.equals("points") && number) {
                terms.add(new Term(term[0], term[1], Integer.parseInt(term[2]), Integer.parseInt(term[3] + one)));
                next = "comma";
            } else if (next.equals("comma") && one.equals(",") && terms.size() < 12) {
                next = "test";
            } else {
                return token.start(1);
            }
        }
        return next.equals("comma") ? -1 : text.length();
    }

    public int score(int dish, int lot) {
        element(between(dish, 0, dishes.size() - 1));
        lotAt(lot);
        return dishes.get(dish).stream().filter(t -> holds(t, lots.get(lot))).mapToInt(t -> t.points).sum();
    }

    private boolean holds(Term term, Lot lot) {
        Kind kind = kinds.get(lot.kind);
        int at = PLAIN.indexOf(term.word);
        if (at >= 0) {
            return at < 2 ? kind.red == 1 - at : kind.sort == at - 2;
        }
        int[] measured = {kind.body, year() - lot.vintage, worthIn(lot, year())};
        int way = Integer.compare(measured[MEASURES.indexOf(term.word)], term.limit);
        return way == List.of("<", "=", ">").indexOf(term.sign) - 1;
    }

    public int match(int dish, int k) {
        element(between(dish, 0, dishes.size() - 1));
        List<Integer> matched = new ArrayList<>();
        for (int i = 0; i < lots.size(); i++) {
            if (find(i, 0) >= 0 && between(year(), lots.get(i).from, lots.get(i).until)) {
                matched.add(i);
            }
        }
        matched.sort(Comparator.<Integer>comparingInt(i -> -score(dish, i))
                .thenComparingInt(i -> worthIn(lots.get(i), year())).thenComparingInt(i -> i));
        return between(k, 0, matched.size() - 1) ? matched.get(k) : -1;
    }

    public int sheet(int width) {
        argument(between(width, 0, 2));
        if (widths.size() == 4) {
            return -1;
        }
        widths.add(width);
        return widths.size() - 1;
    }

    public int row(int sheet, int k, int n) {
        index(between(sheet, 0, widths.size() - 1) && between(k, 0, 9));
        if (!between(n, 0, 40)) {
            return -1;
        }
        rows[sheet][k] = new long[n];
        return n;
    }

    public int set(int sheet, int k, int i, long v) {
        index(between(sheet, 0, widths.size() - 1) && between(k, 0, 9));
        long[] row = rows[sheet][k];
        if (row == null) {
            return -1;
        }
        if (!between(i, 0, row.length - 1)) {
            return -2;
        }
        int above = 64 - (16 << widths.get(sheet));
        row[i] = v << above >> above;
        return 1;
    }

    public int deliver(int sheet, int k) {
        index(between(sheet, 0, widths.size() - 1) && between(k, 0, 9));
        long[] row = rows[sheet][k];
        if (row == null) {
            return -1;
        }
        int came = 0;
        while (row.length >= 5 * came + 5 && comes(Arrays.copyOfRange(row, 5 * came, 5 * came + 5))) {
            came++;
        }
        return came;
    }

    private boolean comes(long[] five) {
        boolean fits = between(five[0], 0, kinds.size() - 1) && between(five[1], 1900, 2100) && between(five[2], 1, 10000)
                && between(five[3], 0, 29) && between(five[4], 1, 12);
        if (!fits || !in((int) five[3]).isEmpty() || lots.size() == 60) {
            return false;
        }
        int lot = lot((int) five[0], (int) five[1], (int) five[2]);
        put((int) five[3], lot, (int) five[4]);
        return true;
    }

    /** Bottle by bottle along the path that gains most from a lot to a year, or nothing gains any more. */
    public int plan(int years, int most) {
        argument(between(years, 1, 6) && between(most, 0, 100));
        int n = lots.size();
        int[] left = new int[n];
        int[] room = new int[years];
        Arrays.fill(room, most);
        for (int i = 0; i < n; i++) {
            left[i] = bottlesOf(i, Where.CELL).size();
        }
        int[][] sold = new int[n][years];
        int sum = 0;
        int gain = soldMore(left, room, sold);
        while (gain > 0) {
            sum += gain;
            gain = soldMore(left, room, sold);
        }
        return sum;
    }

    private int soldMore(int[] left, int[] room, int[][] sold) {
        int n = left.length;
        int years = room.length;
        int[] gain = new int[n + years];
        int[] before = new int[n + years];
        Arrays.fill(gain, UNREACHED);
        Arrays.fill(before, -1);
        for (int i = 0; i < n; i++) {
            gain[i] = left[i] > 0 ? 0 : gain[i];
        }
        boolean better = true;
        while (better) {
            better = false;
            for (int i = 0; i < n; i++) {
                for (int y = 0; y < years; y++) {
                    int worth = between(year() + y, lots.get(i).from, lots.get(i).until) ? worthIn(lots.get(i), year() + y) : 0;
                    if (worth > 0 && gain[i] > UNREACHED && gain[i] + worth > gain[n + y]) {
                        gain[n + y] = gain[i] + worth;
                        before[n + y] = i;
                        better = true;
                    }
                    if (sold[i][y] > 0 && gain[n + y] > UNREACHED && gain[n + y] - worth > gain[i]) {
                        gain[i] = gain[n + y] - worth;
                        before[i] = n + y;
                        better = true;
                    }
                }
            }
        }
        int last = -1;
        for (int y = 0; y < years; y++) {
            if (room[y] > 0 && gain[n + y] > 0 && (last < 0 || gain[n + y] > gain[last])) {
                last = n + y;
            }
        }
        if (last < 0) {
            return 0;
        }
        room[last - n]--;
        int at = last;
        while (before[at] >= 0) {
            int from = before[at];
            sold[Math.min(at, from)][Math.max(at, from) - n] += at > from ? 1 : -1;
            at = from;
        }
        left[at]--;
        return gain[last];
    }

    public int count(int what) {
        int found = (int) bottles.stream().filter(b -> b.found).count();
        int[] all = {bottles.size() - found, found, all(Where.CELL), all(Where.OPEN), all(Where.SOLD), all(Where.EMPTY),
            all(Where.BROKEN), poured, spilt, kinds.size(), lots.size(), dishes.size(), widths.size(), hour, tape.length()};
        return between(what, 0, 14) ? all[what] : -1;
    }

    public long till() {
        return paid;
    }

    private static boolean between(long number, long least, long most) {
        return least <= number && number <= most;
    }

    private static void argument(boolean fits) {
        if (!fits) {
            throw new IllegalArgumentException();
        }
    }

    private static void index(boolean fits) {
        if (!fits) {
            throw new IndexOutOfBoundsException();
        }
    }

    private static void element(boolean fits) {
        if (!fits) {
            throw new NoSuchElementException();
        }
    }

    private int year() {
        return 2000 + hour / 8760;
    }

    private Lot lotAt(int lot) {
        index(between(lot, 0, lots.size() - 1));
        return lots.get(lot);
    }

    private int worthIn(Lot lot, int year) {
        if (year < lot.from) {
            return lot.price;
        }
        int worth = lot.price * (20 + Math.min(year, lot.until) - lot.from) / 20;
        for (int y = lot.until; y < year; y++) {
            int sort = kinds.get(lot.kind).sort;
            worth = sort == 0 ? worth / 2 : sort == 1 ? 0 : worth;
        }
        return worth;
    }

    /** Whether a lot is sold and poured this year. */
    private boolean isDrunk(Lot lot) {
        return lot.from <= year() && (year() <= lot.until || kinds.get(lot.kind).sort == 2);
    }

    private List<Bottle> in(int cell) {
        return bottles.stream().filter(b -> b.where == Where.CELL && b.cell == cell).toList();
    }

    private List<Bottle> bottlesOf(int lot, Where where) {
        return bottles.stream().filter(b -> b.lot == lot && b.where == where).toList();
    }

    private int all(Where where) {
        return (int) bottles.stream().filter(b -> b.where == where).count();
    }

    private void comeTo(int cell, int lot, int n, boolean found) {
        for (int i = 0; i < n; i++) {
            Bottle bottle = new Bottle();
            bottle.lot = lot;
            bottle.cell = cell;
            bottle.found = found;
            bottles.add(bottle);
        }
    }
}
