import java.lang.reflect.Constructor;
import java.lang.reflect.Field;
import java.lang.reflect.Method;
import java.lang.reflect.Modifier;
import java.util.Arrays;
import java.util.TreeSet;

/** Promise 1 and the face: the document's members and no other that is not private. */
public final class FaceTest {
    private static final String[] FACE = {
        "int kind(int,int,int,int,int) IllegalArgumentException",
        "int lot(int,int,int) IndexOutOfBoundsException,IllegalArgumentException",
        "int told(int,int) IndexOutOfBoundsException,IllegalArgumentException",
        "int worth(int,int) IndexOutOfBoundsException,IllegalArgumentException",
        "int taste(int,int) IndexOutOfBoundsException,IllegalArgumentException",
        "int put(int,int,int) NoSuchElementException,IndexOutOfBoundsException,IllegalArgumentException",
        "int move(int,int,int) NoSuchElementException,IllegalArgumentException",
        "int cell(int,int) NoSuchElementException,IllegalArgumentException",
        "int find(int,int) IndexOutOfBoundsException",
        "int sell(int) NoSuchElementException",
        "int broken(int) NoSuchElementException",
        "int counted(int,int) NoSuchElementException,IllegalArgumentException",
        "int glass(int) IndexOutOfBoundsException",
        "int wait(int) IllegalArgumentException,IllegalStateException",
        "int feed(int,int,int,int,int) ",
        "int dish(int) IllegalArgumentException,IllegalStateException",
        "int score(int,int) NoSuchElementException,IndexOutOfBoundsException",
        "int match(int,int) NoSuchElementException",
        "int sheet(int) IllegalArgumentException",
        "int row(int,int,int) IndexOutOfBoundsException",
        "int set(int,int,int,long) IndexOutOfBoundsException",
        "int deliver(int,int) IndexOutOfBoundsException",
        "int plan(int,int) IllegalArgumentException",
        "int count(int) ",
        "long till() ",
    };

    public static void main(String[] args) {
        members();
        nothingOfAllThis();
        objectsAreEachTheirOwn();
        Checks.end();
    }

    private static void members() {
        TreeSet<String> open = new TreeSet<>();
        TreeSet<String> openNames = new TreeSet<>();
        for (Method m : WineCellar.class.getDeclaredMethods()) {
            if (Modifier.isPublic(m.getModifiers()) && !Modifier.isStatic(m.getModifiers())) {
                open.add(m.getReturnType() + " " + m.getName() + "(" + names(m.getParameterTypes()) + ") "
                        + names(m.getExceptionTypes()));
                openNames.add(m.getName());
            }
        }
        Checks.due("the public methods are the face's", open.equals(new TreeSet<>(Arrays.asList(FACE))) ? 1 : 0, 1);
        for (Method m : WineCellar.class.getDeclaredMethods()) {
            if (!Modifier.isPublic(m.getModifiers())) {
                Checks.due(m + " is private", Modifier.isPrivate(m.getModifiers()) ? 1 : 0, 1);
                Checks.due(m + " bears a public one's name", openNames.contains(m.getName()) ? 1 : 0, 0);
            }
        }
        for (Field f : WineCellar.class.getDeclaredFields()) {
            boolean fits = f.getName().equals("NONE") ? Modifier.isPublic(f.getModifiers())
                    : Modifier.isPrivate(f.getModifiers());
            Checks.due(f + " is seen as it must be", fits ? 1 : 0, 1);
            Checks.due(f + " is final if static",
                    Modifier.isStatic(f.getModifiers()) && !Modifier.isFinal(f.getModifiers()) ? 1 : 0, 0);
        }
        Constructor<?>[] makers = WineCellar.class.getDeclaredConstructors();
        Checks.due("constructors", makers.length, 1);
        Checks.due("the constructor is public", Modifier.isPublic(makers[0].getModifiers()) ? 1 : 0, 1);
        Checks.due("the class is public and final",
                WineCellar.class.getModifiers() & (Modifier.PUBLIC | Modifier.FINAL), Modifier.PUBLIC | Modifier.FINAL);
        Checks.due("NONE", WineCellar.NONE, -1);
    }

    private static String names(Class<?>[] types) {
        StringBuilder names = new StringBuilder();
        for (Class<?> type : types) {
            names.append(names.length() == 0 ? "" : ",").append(type.getSimpleName());
        }
        return names.toString();
    }

    /** "Nothing of all this; HOUR 0; an empty TAPE." */
    private static void nothingOfAllThis() {
        WineCellar x = new WineCellar();
        for (int what = 0; what < 15; what++) {
            Checks.due("new: count(" + what + ")", x.count(what), 0);
        }
        Checks.due("new: till()", x.till(), 0);
        for (int cell = 0; cell < 30; cell++) {
            Checks.due("new: cell(" + cell + ", 0)", x.cell(cell, 0), -1);
            Checks.due("new: cell(" + cell + ", 1)", x.cell(cell, 1), 0);
            Checks.due("new: sell(" + cell + ")", x.sell(cell), -1);
        }
        Checks.dueThrow("new: lot(0, 2000, 1)", Checks.INDEX, () -> x.lot(0, 2000, 1));
        Checks.dueThrow("new: told(0, 0)", Checks.INDEX, () -> x.told(0, 0));
        Checks.dueThrow("new: match(0, 0)", Checks.ELEMENT, () -> x.match(0, 0));
        Checks.dueThrow("new: row(0, 0, 1)", Checks.INDEX, () -> x.row(0, 0, 1));
        Checks.dueThrow("new: dish(1)", Checks.ARGUMENT, () -> x.dish(1));
        Checks.due("new: plan(6, 100)", x.plan(6, 100), 0);
        Checks.due("new: wait(0)", x.wait(0), 0);
    }

    private static void objectsAreEachTheirOwn() {
        String before = Checks.look(new WineCellar());
        WineCellar x = new WineCellar();
        x.kind(0, 1, 0, 0, 60);
        x.lot(0, 2000, 10);
        x.put(3, 0, 4);
        x.sheet(0);
        Checks.dish(x, "red+1");
        Checks.feed(x, "red+1");
        x.glass(0);
        x.sell(3);
        x.broken(3);
        x.wait(5);
        Checks.due("a new cellar beside another one", Checks.look(new WineCellar()), before);
    }
}
