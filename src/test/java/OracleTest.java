import java.lang.reflect.InvocationTargetException;
import java.lang.reflect.Method;
import java.util.ArrayList;
import java.util.HashMap;
import java.util.List;
import java.util.Map;
import java.util.Random;

/**
 * Long runs of calls by lot, the same for the class and for the Oracle: all answers must be alike.
 * Told a first seed and a number of runs, it makes those instead.
 */
public final class OracleTest {
    private static final int RUNS = 1500;
    private static final int CALLS = 120;
    private static final String OFTEN = "play play play play move move move back huff huffs state moves told draw "
        + "put put proves keys keyAt duals sources meanMoves best value distance lines why calm seen ";
    private static final String AT_TIMES = "from to captured captures crowns at pieces side beside fields played "
        + "crownShare checksum count longest claim refuted law turn bar isSound solve ";
    private static final String SELDOM = "fill board unbar back";
    private static final String[] NAMES = (OFTEN + OFTEN + OFTEN + AT_TIMES + SELDOM).split(" ");
    private static final Map<String, Method> BOARD = methods(Huffboard.class);
    private static final Map<String, Method> ORACLE = methods(Oracle.class);

    private final Random lot;
    private final Huffboard board = new Huffboard();
    private final Oracle oracle = new Oracle();
    private final List<String> calls = new ArrayList<>();
    private String wrong = null;

    private OracleTest(long seed) {
        lot = new Random(seed);
    }

    public static void main(String[] args) throws Exception {
        long first = args.length > 0 ? Long.parseLong(args[0]) : 1;
        int runs = args.length > 1 ? Integer.parseInt(args[1]) : RUNS;
        for (long seed = first; seed < first + runs; seed++) {
            OracleTest run = new OracleTest(seed);
            run.play();
            if (run.wrong != null) {
                System.out.println("seed " + seed + ": " + run.wrong);
                run.calls.forEach(call -> System.out.println("  " + call));
                System.exit(1);
            }
        }
        System.out.println(runs + " runs are as the oracle says");
    }

    private static Map<String, Method> methods(Class<?> kind) {
        Map<String, Method> found = new HashMap<>();
        for (Method method : kind.getMethods()) {
            if (method.getDeclaringClass() == kind) {
                found.put(method.getName(), method);
            }
        }
        return found;
    }

    private void play() throws Exception {
        setUp();
        for (int i = 0; i < CALLS && wrong == null; i++) {
            String name = name();
            make(name, arguments(name));
        }
    }

    private void setUp() throws Exception {
        make("board", lot.nextInt(10) < 6 ? 4 + lot.nextInt(2) : 4 + lot.nextInt(5));
        for (int law = 0; law < 9; law++) {
            make("law", law, lot.nextInt(law == 2 || law == 5 ? 3 : 2));
        }
        if (lot.nextInt(3) > 0) {
            make("law", 8, 0);
        }
        make("law", 9, lot.nextInt(3) == 0 ? 1 + lot.nextInt(6) : 0);
        make("law", 10, lot.nextInt(3) == 0 ? 1 + lot.nextInt(4) : 0);
        if (lot.nextInt(4) == 0) {
            make("fill", 1 + lot.nextInt(oracle.fields() > 17 ? 2 : 1));
        } else {
            int most = lot.nextBoolean() ? 4 : oracle.fields() / 2;
            for (int i = 1 + lot.nextInt(most); i > 0; i--) {
                make("put", field(), letter("mkMK"));
            }
        }
        if (oracle.fields() < 13 && lot.nextBoolean()) {
            make("solve", 1 + lot.nextInt(2));
        }
        make("turn", lot.nextInt(2));
    }

    /** A game that is over is mostly taken back or begun again, and what can be huffed mostly is. */
    private String name() {
        if (oracle.state() != 'p' && lot.nextInt(3) == 0) {
            return oracle.played() > 0 ? "back" : "put";
        }
        if (oracle.huffs() > 0 && lot.nextInt(3) == 0) {
            return "huff";
        }
        return NAMES[lot.nextInt(NAMES.length)];
    }

    private Object[] arguments(String name) {
        return switch (name) {
            case "board" -> values(number(4, 8));
            case "law" -> values(number(0, 10), number(0, 2));
            case "put" -> values(field(), letter("mkMK-x"));
            case "fill" -> values(number(0, 2));
            case "turn" -> values(number(0, 1));
            case "at" -> values(field());
            case "huff" -> values(huffed());
            case "pieces" -> values(number(0, 1), lot.nextBoolean());
            case "beside" -> values(field(), number(0, 3));
            case "from", "to", "captured", "crowns", "play" -> values(index());
            case "captures" -> values(index(), field());
            case "told", "move", "bar" -> twoFields();
            case "lines" -> values(depth(0, 4));
            case "proves" -> values(depth(0, 6));
            case "keys", "duals" -> values(depth(1, 6));
            case "keyAt" -> values(depth(1, 6), lot.nextInt(4) - 1);
            case "solve" -> values(tableOf());
            case "count" -> values(letter("wldx"), number(1, 3));
            case "claim" -> values(letter("wldx"));
            case "draw" -> values(number(0, 99999), number(0, 6));
            default -> values();
        };
    }

    private static Object[] values(Object... values) {
        return values;
    }

    private char letter(String letters) {
        return letters.charAt(lot.nextInt(letters.length()));
    }

    private int field() {
        return lot.nextInt(30) == 0 ? lot.nextInt(40) - 4 : lot.nextInt(oracle.fields());
    }

    private int number(int least, int most) {
        return lot.nextInt(30) == 0 ? lot.nextInt(most + 9) - 4 : least + lot.nextInt(most - least + 1);
    }

    private int index() {
        int moves = oracle.moves();
        return moves == 0 || lot.nextInt(30) == 0 ? lot.nextInt(moves + 4) - 2 : lot.nextInt(moves);
    }

    /** Those of a move that there is, or any. */
    private Object[] twoFields() {
        int index = index();
        boolean isMove = index >= 0 && index < oracle.moves();
        return isMove && lot.nextInt(3) > 0 ? values(oracle.from(index), oracle.to(index)) : values(field(), field());
    }

    /** A field with a piece of the side that does not move, or any. */
    private int huffed() {
        String others = oracle.side() == 0 ? "MK" : "mk";
        for (int i = 0; i < 20; i++) {
            int field = lot.nextInt(oracle.fields());
            if (others.indexOf(oracle.at(field)) >= 0) {
                return field;
            }
        }
        return field();
    }

    /** A number of moves that the Oracle can search through in good time. */
    private int depth(int least, int most) {
        if (lot.nextInt(30) == 0) {
            return lot.nextBoolean() ? least - 1 : most + 1;
        }
        int branches = Math.max(2, oracle.moves());
        int depth = 0;
        for (long all = branches; depth < most && all < 3000; all *= branches) {
            depth++;
        }
        return Math.max(least, depth - lot.nextInt(3));
    }

    /** A number of pieces; tables of three are dear on a board of 5 rows. */
    private int tableOf() {
        int number = number(1, 3);
        return number == 3 && oracle.fields() == 12 && lot.nextInt(20) > 0 ? 2 : number;
    }

    private void make(String name, Object... args) throws Exception {
        String call = name + List.of(args);
        calls.add(call);
        String got = answer(BOARD.get(name), board, args);
        String due = answer(ORACLE.get(name), oracle, args);
        if (!got.equals(due)) {
            wrong = call + " answered " + got + ", due is " + due;
        } else if (board.checksum() != oracle.checksum()) {
            wrong = "behind " + call + " the position is another one";
        }
    }

    private static String answer(Method method, Object object, Object... args) throws Exception {
        try {
            return String.valueOf(method.invoke(object, args));
        } catch (InvocationTargetException e) {
            return e.getCause().getClass().getSimpleName();
        }
    }
}
