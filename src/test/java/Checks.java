import java.util.concurrent.Callable;

/** What the tests share: they tell each answer that is not the one due, and end with exit code 1 then. */
final class Checks {
    static final Class<?> ARGUMENT = IllegalArgumentException.class;
    static final Class<?> STATE = IllegalStateException.class;
    static final Class<?> INDEX = IndexOutOfBoundsException.class;
    static final Class<?> ELEMENT = java.util.NoSuchElementException.class;

    private static int wrong = 0;

    static void due(String what, long got, long want) {
        if (got != want) {
            wrong++;
            System.out.println(what + " answered " + got + ", due is " + want);
        }
    }

    static void dueThrow(String what, Class<?> want, Callable<?> call) {
        String got;
        try {
            got = String.valueOf(call.call());
        } catch (Exception e) {
            if (e.getClass() == want) {
                return;
            }
            got = e.toString();
        }
        wrong++;
        System.out.println(what + " answered " + got + ", due is " + want.getName());
    }

    static void end() {
        if (wrong > 0) {
            System.out.println(wrong + " answers are not as due");
            System.exit(1);
        }
    }

    /** Feeds a text, filled up to twenties with bytes that stand behind it; answers its length. */
    static int feed(WineCellar x, String text) {
        for (int at = 0; at < text.length(); at += 20) {
            x.feed(word(text, at), word(text, at + 4), word(text, at + 8), word(text, at + 12), word(text, at + 16));
        }
        return text.length();
    }

    static int dish(WineCellar x, String text) {
        return x.dish(feed(x, text));
    }

    private static int word(String text, int from) {
        int word = 0;
        for (int i = from; i < from + 4; i++) {
            word = word << 8 | (i < text.length() ? text.charAt(i) & 255 : '?');
        }
        return word;
    }
}
