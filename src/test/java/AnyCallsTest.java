import java.lang.reflect.InvocationTargetException;
import java.lang.reflect.Method;
import java.util.Arrays;
import java.util.HashMap;
import java.util.Map;
import java.util.Random;

/**
 * Runs of 512 calls with any arguments, each answered as the model answers it, or with the same exception: so what
 * a refused call must leave alone shows in what is asked behind it.
 */
public final class AnyCallsTest {
    private static final int RUNS = 2000;
    private static final int CALLS = 512;
    private static final int LAST_LOOK = 76;
    private static final int STEPS = 27;
    private static final int[] LEANINGS = {0, 1, 1, 2, 6};
    private static final int[] LONGEST_WAITS = {3, 30, 300, 5000, 30000, 100000};
    private static final int[] FAR = {Integer.MAX_VALUE, Integer.MIN_VALUE, Integer.MAX_VALUE - 3, 1 << 31 | 5, 256, -256, 65536};
    private static final String SIGNS = "  ,+-<>=0123456789abdeginorstwxyz?\t\0A{`/:";
    private static final String[] PLAIN = {"red", "white", "still", "fizz", "sweet"};
    private static final String[] MEASURES = {"body", "age", "worth"};
    private static final Map<String, Method> OF_CLASS = methods(WineCellar.class);
    private static final Map<String, Method> OF_MODEL = methods(Model.class);

    private final int run;
    private final Random random;
    private final WineCellar x = new WineCellar();
    private final Model model = new Model();
    private final int[] leanings = new int[STEPS];
    private final int longestWait;
    private int calls = 0;
    private boolean differs = false;

    private AnyCallsTest(int run) {
        this.run = run;
        random = new Random(run);
        for (int i = 0; i < STEPS; i++) {
            leanings[i] = LEANINGS[random.nextInt(LEANINGS.length)];
        }
        longestWait = LONGEST_WAITS[random.nextInt(LONGEST_WAITS.length)];
    }

    public static void main(String[] args) {
        for (int run = 0; run < RUNS; run++) {
            new AnyCallsTest(run).allCalls();
        }
        Checks.end();
    }

    private static Map<String, Method> methods(Class<?> of) {
        Map<String, Method> methods = new HashMap<>();
        for (Method m : of.getDeclaredMethods()) {
            if (java.lang.reflect.Modifier.isPublic(m.getModifiers())) {
                methods.put(m.getName(), m);
            }
        }
        return methods;
    }

    private void allCalls() {
        if (run % 4 != 0) {
            stock();
        }
        while (!differs && calls < CALLS - LAST_LOOK) {
            step(lean());
        }
        for (int cell = 0; cell < 30; cell++) {
            call("cell", cell, 0);
            call("cell", cell, 1);
        }
        for (int what = 0; what < 15; what++) {
            call("count", what);
        }
        call("till");
    }

    private void call(String name, Object... args) {
        if (differs || calls >= CALLS) {
            return;
        }
        calls++;
        String got = answer(OF_CLASS.get(name), x, args);
        String want = answer(OF_MODEL.get(name), model, args);
        Checks.due("run " + run + ", call " + calls + ": " + name + Arrays.toString(args), got, want);
        differs = !got.equals(want);
    }

    private static String answer(Method method, Object of, Object[] args) {
        try {
            return String.valueOf(method.invoke(of, args));
        } catch (InvocationTargetException e) {
            return e.getCause().getClass().getName();
        } catch (IllegalAccessException e) {
            return e.toString();
        }
    }

    private void stock() {
        for (int i = 0; i < 6; i++) {
            call("kind", i % 3, 1 + random.nextInt(5), i % 2, random.nextInt(6), 6 + random.nextInt(55));
        }
        for (int i = 0; i < 12; i++) {
            step(1);
            call("put", random.nextInt(30), i, 1 + random.nextInt(12));
        }
        call("sheet", random.nextInt(3));
    }

    private int lean() {
        int sum = 1;
        for (int weight : leanings) {
            sum += weight;
        }
        int at = random.nextInt(sum);
        for (int i = 0; i < STEPS; i++) {
            at -= leanings[i];
            if (at < 0) {
                return i;
            }
        }
        return random.nextInt(STEPS);
    }

    /** Mostly between these, then at and behind their edges, then far away. */
    private int number(int least, int most) {
        int way = random.nextInt(60);
        if (way == 0) {
            return FAR[random.nextInt(FAR.length)];
        }
        if (way < 5) {
            return new int[] {least - 1, least, most, most + 1}[way - 1];
        }
        return least + random.nextInt(Math.max(most - least + 1, 1));
    }

    private int lot() {
        return number(0, model.count(10) - 1);
    }

    private int price() {
        return random.nextInt(3) == 0 ? number(1, 10000) : number(1, 60);
    }

    private int vintage() {
        int year = 2000 + model.count(13) / 8760;
        return random.nextInt(6) == 0 ? number(1900, 2100) : Math.min(number(year - 15, year + 2), 2100);
    }

    private void step(int which) {
        switch (which) {
            case 0: call("kind", number(0, 2), number(1, 5), number(0, 1), number(0, 10), number(8, 60)); break;
            case 1: call("lot", number(0, model.count(9) - 1), vintage(), price()); break;
            case 2: call("told", lot(), number(0, 7)); break;
            case 3: call("worth", lot(), number(1900, 2300)); break;
            case 4: call("taste", lot(), number(0, 3)); break;
            case 5: call("put", number(0, 29), lot(), number(1, 12)); break;
            case 6: call("move", number(0, 29), number(0, 29), number(1, 6)); break;
            case 7: call("cell", number(0, 29), number(0, 1)); break;
            case 8: call("find", lot(), number(0, 2)); break;
            case 9: call("sell", number(0, 29)); break;
            case 10: call("broken", number(0, 29)); break;
            case 11: call("counted", number(0, 29), number(0, 12)); break;
            case 12: call("glass", lot()); break;
            case 13: call("wait", number(0, longestWait)); break;
            default: step2(which); break;
        }
    }

    private void step2(int which) {
        int dish = number(0, model.count(11) - 1);
        int sheet = number(0, model.count(12) - 1);
        switch (which) {
            case 14: call("feed", random.nextInt(), random.nextInt(), random.nextInt(), random.nextInt(), random.nextInt()); break;
            case 15: dish(); break;
            case 16: call("dish", number(0, model.count(14))); break;
            case 17: call("score", dish, lot()); break;
            case 18: call("match", dish, number(0, 12)); break;
            case 19: call("sheet", number(0, 2)); break;
            case 20: call("row", sheet, number(0, 9), number(0, 40)); break;
            case 21: call("set", sheet, number(0, 9), number(0, 39), random.nextLong()); break;
            case 22: delivery(sheet); break;
            case 23: call("deliver", sheet, number(0, 9)); break;
            case 24: call("plan", number(1, 6), random.nextBoolean() ? number(0, 100) : number(0, 20)); break;
            case 25: call("count", number(0, 14)); break;
            default: call("till"); break;
        }
    }

    private void dish() {
        String text = text();
        if (random.nextInt(3) == 0 && !text.isEmpty()) {
            int at = random.nextInt(text.length());
            String sign = String.valueOf(SIGNS.charAt(random.nextInt(SIGNS.length())));
            text = text.substring(0, at) + (random.nextInt(3) == 0 ? "" : sign) + text.substring(at + random.nextInt(2));
        }
        if (model.count(14) > 0) {
            call("dish", 0);
        }
        for (int at = 0; at < text.length(); at += 20) {
            call("feed", Checks.word(text, at), Checks.word(text, at + 4), Checks.word(text, at + 8),
                    Checks.word(text, at + 12), Checks.word(text, at + 16));
        }
        call("dish", random.nextInt(8) == 0 ? number(0, text.length()) : Math.min(text.length(), model.count(14)));
    }

    private String text() {
        StringBuilder text = new StringBuilder();
        int terms = random.nextInt(5) == 0 ? 11 + random.nextInt(3) : 1 + random.nextInt(4);
        for (int i = 0; i < terms; i++) {
            text.append(i == 0 ? "" : ",").append(blanks());
            if (random.nextBoolean()) {
                text.append(PLAIN[random.nextInt(5)]).append(blanks());
            } else {
                text.append(MEASURES[random.nextInt(3)]).append(blanks()).append("<>=".charAt(random.nextInt(3)));
                text.append(blanks()).append(digits()).append(blanks());
            }
            text.append(random.nextBoolean() ? "+" : "-").append(blanks()).append(digits()).append(blanks());
        }
        return text.toString();
    }

    private String blanks() {
        return random.nextInt(8) == 0 ? "  ".substring(random.nextInt(2)) : "";
    }

    private String digits() {
        int[] mosts = {3, 6, 20, 150, 99999, 1000000};
        return String.valueOf(random.nextInt(mosts[random.nextInt(random.nextInt(8) == 0 ? 6 : 4)]));
    }

    private void delivery(int sheet) {
        int k = number(0, 9);
        int fives = random.nextInt(4) == 0 ? random.nextInt(9) : 1 + random.nextInt(2);
        int n = Math.min(40, 5 * fives + (random.nextInt(3) == 0 ? random.nextInt(5) : 0));
        call("row", sheet, k, n);
        for (int i = 0; i < n; i++) {
            int[] five = {number(0, model.count(9) - 1), vintage(), price(), number(0, 29), number(1, 12)};
            long above = random.nextInt(12) == 0 ? (long) random.nextInt(5) << 16 * (1 + random.nextInt(3)) : 0;
            call("set", sheet, k, i, five[i % 5] + above);
        }
        call("deliver", sheet, k);
    }
}
