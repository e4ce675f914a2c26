import java.util.NoSuchElementException;
import java.util.Random;

/**
 * Runs of 512 calls with any arguments: nothing is thrown but what the document names, what throws or
 * refuses changes nothing, and every bottle bought or found is somewhere.
 */
public final class AnyCallsTest {
    private static final int RUNS = 1500;
    private static final int CALLS = 512;
    private static final int[] FAR = {-1, -2, 12, 13, 29, 30, 60, 61, 100, 101, Integer.MAX_VALUE, Integer.MIN_VALUE,
        Integer.MAX_VALUE - 3, 1 << 31 | 5};
    private static final String SIGNS = " ,+-<>=0123456789abdeginorstwxyz";
    private static final String[] WORDS = {"red", "white", "still", "fizz", "sweet", "body", "age", "worth"};

    private final Random random;
    private final WineCellar x = new WineCellar();

    private AnyCallsTest(int seed) {
        random = new Random(seed);
    }

    public static void main(String[] args) {
        for (int run = 0; run < RUNS; run++) {
            new AnyCallsTest(run).calls(run);
        }
        Checks.end();
    }

    private void calls(int run) {
        if (run % 3 != 0) {
            stock();
        }
        for (int i = 0; i < CALLS; i++) {
            String before = state();
            int which = random.nextInt(25);
            boolean mayChange = true;
            try {
                mayChange = call(which) >= 0;
            } catch (IllegalArgumentException | IllegalStateException | NoSuchElementException e) {
                mayChange = false;
            } catch (RuntimeException e) {
                mayChange = false;
                Checks.due("run " + run + ": call " + which + " threw " + e,
                        e.getClass() == IndexOutOfBoundsException.class ? 0 : 1, 0);
            }
            // A dish that is none empties the tape, and counted answers below 0 for fewer.
            if (!mayChange && which != 11 && which != 15) {
                Checks.due("run " + run + ": call " + which + " changed something", before.equals(state()) ? 0 : 1, 0);
            }
            bottlesAreSomewhere(run);
        }
    }

    private void stock() {
        for (int i = 0; i < 6; i++) {
            x.kind(i % 3, 1 + i % 5, i % 2, i % 4, i * 10);
        }
        for (int i = 0; i < 15; i++) {
            x.lot(i % 6, 1980 + random.nextInt(25), 1 + random.nextInt(300));
            x.put(i, i, 1 + random.nextInt(12));
        }
        x.sheet(0);
        x.sheet(2);
    }

    private int number(int bound) {
        return random.nextInt(20) == 0 ? FAR[random.nextInt(FAR.length)] : random.nextInt(bound);
    }

    private int feedText() {
        StringBuilder text = new StringBuilder();
        while (text.length() < 18) {
            if (random.nextInt(3) > 0) {
                text.append(WORDS[random.nextInt(8)]).append(random.nextBoolean() ? "+1," : "<40-3,");
            } else {
                text.append(SIGNS.charAt(random.nextInt(SIGNS.length())));
            }
        }
        text.setLength(Math.min(text.length(), 20));
        Checks.feed(x, text.toString());
        return x.count(14);
    }

    private long call(int which) {
        switch (which) {
            case 0: return x.kind(number(3), 1 + number(5), number(2), number(20), 20 + number(41));
            case 1: return x.lot(number(6), 1950 + number(80), 1 + number(10000));
            case 2: return x.told(number(20), number(8));
            case 3: return x.worth(number(20), 1900 + number(401));
            case 4: return x.taste(number(20), number(4));
            case 5: return x.put(number(30), number(20), 1 + number(12));
            case 6: return x.move(number(30), number(30), 1 + number(6));
            case 7: return x.cell(number(30), number(2));
            case 8: return x.find(number(20), number(3));
            case 9: return x.sell(number(30));
            case 10: return x.broken(number(30));
            case 11: return x.counted(number(30), number(13));
            case 12: return x.glass(number(20));
            case 13: return x.wait(number(random.nextInt(8) == 0 ? 20000 : 30));
            case 14: return random.nextInt(4) > 0 ? feedText()
                    : x.feed(random.nextInt(), random.nextInt(), random.nextInt(), random.nextInt(), random.nextInt());
            case 15: return x.dish(number(x.count(14) + 1));
            case 16: return Math.abs(x.score(number(4), number(20)));
            case 17: return x.match(number(4), number(10));
            case 18: return x.sheet(number(3));
            case 19: return x.row(number(3), number(10), number(41));
            case 20: return x.set(number(3), number(10), number(40), random.nextBoolean() ? number(30) : random.nextLong());
            case 21: return x.deliver(number(3), number(10));
            case 22: return x.plan(1 + number(6), number(101));
            case 23: return x.count(number(15));
            default: return x.till();
        }
    }

    private String state() {
        StringBuilder state = new StringBuilder();
        for (int what = 0; what < 15; what++) {
            state.append(x.count(what)).append(' ');
        }
        for (int cell = 0; cell < 30; cell++) {
            state.append(x.cell(cell, 0)).append(':').append(x.cell(cell, 1)).append(' ');
        }
        for (int lot = 0; lot < x.count(10); lot++) {
            state.append(x.told(lot, 3)).append('-').append(x.told(lot, 4)).append('/').append(x.told(lot, 7)).append(' ');
        }
        return state.append(x.till()).toString();
    }

    private void bottlesAreSomewhere(int run) {
        Checks.due("run " + run + ": bottles that are nowhere",
                x.count(0) + x.count(1) - x.count(2) - x.count(3) - x.count(4) - x.count(5) - x.count(6), 0);
        int inCells = 0;
        int open = 0;
        int left = 0;
        for (int lot = 0; lot < x.count(10); lot++) {
            inCells += x.told(lot, 5);
            open += x.told(lot, 6);
            left += x.told(lot, 7);
        }
        Checks.due("run " + run + ": bottles in cells", x.count(2), inCells);
        Checks.due("run " + run + ": open bottles", x.count(3), open);
        Checks.due("run " + run + ": glasses", 6 * (x.count(3) + x.count(5)), x.count(7) + x.count(8) + left);
    }
}
