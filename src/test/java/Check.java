import java.lang.reflect.InvocationTargetException;
import java.lang.reflect.Method;
import java.lang.reflect.Modifier;
import java.util.Comparator;
import java.util.Map;
import java.util.TreeMap;

/** Counts the answers that are not as due; each test ends with end(), or is run by all(). */
public final class Check {
    interface Call {
        Object make();
    }

    interface Maker {
        Huffboard make();
    }

    interface Use {
        Object on(Huffboard board);
    }

    private static int made = 0;
    private static int wrong = 0;
    private static String test = "";

    private Check() {
    }

    static void same(String what, Object due, Object got) {
        made++;
        if (!due.equals(got)) {
            wrong++;
            System.out.println(test + what + " is " + got + ", due is " + due);
        }
    }

    static void yes(String what, boolean got) {
        same(what, true, got);
    }

    static void no(String what, boolean got) {
        same(what, false, got);
    }

    /** The call must throw just that, and leave the board as it was. */
    static void fails(String what, Class<? extends Exception> due, Huffboard board, Call call) {
        String before = Boards.print(board);
        Object got;
        try {
            got = call.make();
        } catch (RuntimeException e) {
            got = e.getClass();
        }
        same(what, due, got);
        same(what + ": what it leaves", before, Boards.print(board));
    }

    /** The call must throw just that, and all that later calls tell must be as if it had not been made. */
    static void refuses(String what, Class<? extends Exception> due, Maker maker, Use call) {
        Huffboard board = maker.make();
        same(what, due.getSimpleName(), Boards.answer(() -> call.on(board)));
        same(what + ": what it leaves", Boards.whole(maker.make()), Boards.whole(board));
    }

    /** The move by two fields must be refused for that reason, and nothing else may be another one then. */
    static void refusesMove(String what, char why, Maker maker, int from, int to) {
        Huffboard board = maker.make();
        same(what, "UnsupportedOperationException", Boards.answer(() -> board.move(from, to)));
        same(what + ": why", why, board.why());
        String due = Boards.whole(maker.make());
        String left = Boards.whole(board);
        same(what + ": what it leaves", due.substring(due.indexOf(',')), left.substring(left.indexOf(',')));
    }

    /** Runs all tests of a class: its methods that take nothing and are not private. */
    static void all(Class<?> tests) {
        Map<String, Method> found = new TreeMap<>(Comparator.comparingInt(Check::promise).thenComparing(name -> name));
        for (Method method : tests.getDeclaredMethods()) {
            if (method.getParameterCount() == 0 && !Modifier.isPrivate(method.getModifiers())) {
                found.put(method.getName(), method);
            }
        }
        found.forEach(Check::run);
        System.out.println(found.size() + " tests");
        end();
    }

    /** The number of the promise that a test is named after, 0 if it is named after none. */
    static int promise(String name) {
        String number = name.replaceAll("^promise(\\d+)[A-Z].*", "$1");
        return number.equals(name) ? 0 : Integer.parseInt(number);
    }

    private static void run(String name, Method method) {
        test = name + ": ";
        try {
            method.invoke(null);
        } catch (InvocationTargetException e) {
            same("what it throws", "nothing", e.getCause());
        } catch (IllegalAccessException e) {
            same("what hides it", "nothing", e);
        }
    }

    static void end() {
        System.out.println(made + " answers asked, " + wrong + " wrong");
        if (wrong > 0) {
            System.exit(1);
        }
    }
}
