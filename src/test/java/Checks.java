import java.util.concurrent.Callable;
import java.util.function.Supplier;
import java.util.function.ToLongFunction;

/** What the tests share: they tell each answer that is not the one due, and end with exit code 1 then. */
final class Checks {
    static final Class<?> ARGUMENT = IllegalArgumentException.class;
    static final Class<?> STATE = IllegalStateException.class;
    static final Class<?> INDEX = IndexOutOfBoundsException.class;
    static final Class<?> ELEMENT = java.util.NoSuchElementException.class;

    private static int wrong = 0;

    static void due(String what, long got, long want) {
        if (got != want) {
            tell(what, String.valueOf(got), String.valueOf(want));
        }
    }

    static void due(String what, String got, String want) {
        if (!got.equals(want)) {
            tell(what, got, want);
        }
    }

    static void dueThrow(String what, Class<?> want, Callable<?> call) {
        String got;
        try {
            got = String.valueOf(call.call());
        } catch (Exception e) {
            if (e.getClass() == want) {
                return;
            }
            got = e.toString();
        }
        tell(what, got, want.getName());
    }

    /** The call is answered so, and leaves the cellar like one in which it was not made. */
    static void refused(String what, Supplier<WineCellar> make, long want, ToLongFunction<WineCellar> call) {
        WineCellar x = make.get();
        due(what, call.applyAsLong(x), want);
        due(what + ": the cellar then", look(x), look(make.get()));
    }

    /** The call throws this, and leaves the cellar like one in which it was not made. */
    static void refused(String what, Supplier<WineCellar> make, Class<?> want, ToLongFunction<WineCellar> call) {
        WineCellar x = make.get();
        dueThrow(what, want, () -> call.applyAsLong(x));
        due(what + ": the cellar then", look(x), look(make.get()));
    }

    /** What can be asked of a cellar, in 377 calls at most: what comes behind the 512th call is free. */
    static String look(WineCellar x) {
        StringBuilder look = new StringBuilder("counts");
        for (int what = 0; what < 15; what++) {
            look.append(' ').append(x.count(what));
        }
        look.append(", till ").append(x.till()).append(", cells");
        for (int cell = 0; cell < 30; cell++) {
            look.append(' ').append(x.cell(cell, 0)).append(':').append(x.cell(cell, 1));
        }
        look.append(", lots");
        int lots = x.count(10);
        for (int lot = 0; lot < lots; lot++) {
            look.append(' ');
            for (int what = 3; what < 8; what++) {
                look.append('/').append(x.told(lot, what));
            }
        }
        return look.toString();
    }

    static void end() {
        if (wrong > 0) {
            System.out.println(wrong + " answers are not as due");
            System.exit(1);
        }
    }

    private static void tell(String what, String got, String want) {
        wrong++;
        System.out.println(what + " answered " + got + ", due is " + want);
    }

    /** Feeds a text, filled up to twenties with bytes that stand behind it; answers its length. */
    static int feed(WineCellar x, String text) {
        for (int at = 0; at < text.length(); at += 20) {
            x.feed(word(text, at), word(text, at + 4), word(text, at + 8), word(text, at + 12), word(text, at + 16));
        }
        return text.length();
    }

    static int dish(WineCellar x, String text) {
        return x.dish(feed(x, text));
    }

    /** Four bytes of a text, the first highest. */
    static int word(String text, int from) {
        int word = 0;
        for (int i = from; i < from + 4; i++) {
            word = word << 8 | (i < text.length() ? text.charAt(i) & 255 : '?');
        }
        return word;
    }

    /** A row of a sheet with these numbers. */
    static void fill(WineCellar x, int sheet, int k, long... numbers) {
        due("row of " + numbers.length, x.row(sheet, k, numbers.length), numbers.length);
        for (int i = 0; i < numbers.length; i++) {
            due("set place " + i, x.set(sheet, k, i, numbers[i]), 1);
        }
    }
}
