/** Counts the answers that are not as due; each test ends with end(). */
public final class Check {
    interface Call {
        Object make();
    }

    private static int made = 0;
    private static int wrong = 0;

    private Check() {
    }

    static void same(String what, Object due, Object got) {
        made++;
        if (!due.equals(got)) {
            wrong++;
            System.out.println(what + " is " + got + ", due is " + due);
        }
    }

    static void yes(String what, boolean got) {
        same(what, true, got);
    }

    static void no(String what, boolean got) {
        same(what, false, got);
    }

    /** The call must throw just that, and leave the board as it was. */
    static void fails(String what, Class<? extends Exception> due, Huffboard board, Call call) {
        String before = Boards.print(board);
        Object got;
        try {
            got = call.make();
        } catch (RuntimeException e) {
            got = e.getClass();
        }
        same(what, due, got);
        same(what + ": what it leaves", before, Boards.print(board));
    }

    static void end() {
        System.out.println(made + " answers asked, " + wrong + " wrong");
        if (wrong > 0) {
            System.exit(1);
        }
    }
}
