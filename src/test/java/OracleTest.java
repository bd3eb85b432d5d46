import java.util.ArrayList;
import java.util.List;
import java.util.Random;

/**
 * Runs of calls by lot, the same for the class and for the Oracle: all answers must be alike. Most are of one board
 * and its game; of every sixth one, boards, laws, tables and games follow each other up to the 512th call.
 * Told a first seed and a number of runs, it makes those instead.
 */
public final class OracleTest {
    private static final int RUNS = 1500;
    private static final int CALLS = 120;
    private static final int LAST_CALL = 512;
    private static final int LONG_ONES = 6;
    private static final String OFTEN = "play play play play move move move back huff huffs state moves told draw "
        + "put put proves keys keyAt duals sources meanMoves best value distance lines why calm seen ";
    private static final String AT_TIMES = "from to captured captures crowns at pieces side beside fields played "
        + "crownShare checksum count longest claim refuted law turn bar isSound solve ";
    private static final String SELDOM = "fill board unbar back";
    private static final String[] NAMES = (OFTEN + OFTEN + OFTEN + AT_TIMES + SELDOM).split(" ");

    private final Random lot;
    private final Huffboard board = new Huffboard();
    private final Oracle oracle = new Oracle();
    private final List<String> calls = new ArrayList<>();
    private String wrong = null;

    private OracleTest(long seed) {
        lot = new Random(seed);
    }

    public static void main(String[] args) {
        long first = args.length > 0 ? Long.parseLong(args[0]) : 1;
        int runs = args.length > 1 ? Integer.parseInt(args[1]) : RUNS;
        for (long seed = first; seed < first + runs; seed++) {
            OracleTest run = new OracleTest(seed);
            if (seed % LONG_ONES == 0) {
                run.playToTheLastCall();
            } else {
                run.playOneGame();
            }
            if (run.wrong != null) {
                System.out.println("seed " + seed + ": " + run.wrong);
                run.calls.forEach(call -> System.out.println("  " + call));
                System.exit(1);
            }
        }
        System.out.println(runs + " runs are as the oracle says");
    }

    /** One board and its game; behind each call both must have the same position. */
    private void playOneGame() {
        make("board", rows());
        setUp();
        for (int i = 0; i < CALLS; i++) {
            makeAny();
            if (wrong == null && board.checksum() != oracle.checksum()) {
                wrong = "the position is another one";
            }
        }
    }

    /** The position is not asked for behind each call, as that would be one of the 512, too. */
    private void playToTheLastCall() {
        setUp();
        while (wrong == null && calls.size() < LAST_CALL) {
            for (int i = 20 + lot.nextInt(60); i > 0; i--) {
                makeAny();
            }
            if (lot.nextInt(3) > 0) {
                make("board", rows());
                setUp();
            } else {
                setUpAgain();
            }
        }
    }

    private void makeAny() {
        String name = name();
        make(name, arguments(name));
    }

    private int rows() {
        return lot.nextInt(10) < 6 ? 4 + lot.nextInt(2) : 4 + lot.nextInt(5);
    }

    /** Takes the game back, and changes a law and a few fields. */
    private void setUpAgain() {
        for (int left = oracle.played(); left > 0; left--) {
            make("back");
        }
        make("law", number(0, 10), number(0, 2));
        for (int i = lot.nextInt(4); i > 0; i--) {
            make("put", field(), letter("mkMK--"));
        }
        make("claim", letter("wld"));
        if (oracle.fields() < 13 && lot.nextBoolean()) {
            make("solve", tableOf());
        }
    }

    private void setUp() {
        for (int law = 0; law < 9; law++) {
            make("law", law, lot.nextInt(law == 2 || law == 5 ? 3 : 2));
        }
        if (lot.nextInt(3) > 0) {
            make("law", 8, 0);
        }
        make("law", 9, lot.nextInt(3) == 0 ? 1 + lot.nextInt(6) : 0);
        make("law", 10, lot.nextInt(3) == 0 ? 1 + lot.nextInt(4) : 0);
        if (lot.nextInt(4) == 0) {
            make("fill", 1 + lot.nextInt(oracle.fields() > 17 ? 2 : 1));
        } else {
            int most = lot.nextBoolean() ? 4 : oracle.fields() / 2;
            for (int i = 1 + lot.nextInt(most); i > 0; i--) {
                make("put", field(), letter("mkMK"));
            }
        }
        if (oracle.fields() < 13 && lot.nextBoolean()) {
            make("solve", 1 + lot.nextInt(2));
        }
        make("turn", lot.nextInt(2));
    }

    /** A game that is over is mostly taken back or begun again, and what can be huffed mostly is. */
    private String name() {
        if (oracle.state() != 'p' && lot.nextInt(3) == 0) {
            return oracle.played() > 0 ? "back" : "put";
        }
        if (oracle.huffs() > 0 && lot.nextInt(3) == 0) {
            return "huff";
        }
        return NAMES[lot.nextInt(NAMES.length)];
    }

    private Object[] arguments(String name) {
        return switch (name) {
            case "board" -> values(number(4, 8));
            case "law" -> values(number(0, 10), number(0, 2));
            case "put" -> values(field(), letter("mkMK-x"));
            case "fill" -> values(number(0, 2));
            case "turn" -> values(number(0, 1));
            case "at" -> values(field());
            case "huff" -> values(huffed());
            case "pieces" -> values(number(0, 1), lot.nextBoolean());
            case "beside" -> values(field(), number(0, 3));
            case "from", "to", "captured", "crowns", "play" -> values(index());
            case "captures" -> values(index(), field());
            case "told", "move", "bar" -> twoFields();
            case "lines" -> values(depth(0, 4));
            case "proves" -> values(depth(0, 6));
            case "keys", "duals" -> values(depth(1, 6));
            case "keyAt" -> values(depth(1, 6), lot.nextInt(4) - 1);
            case "solve" -> values(tableOf());
            case "count" -> values(letter("wldx"), number(1, 3));
            case "claim" -> values(letter("wldx"));
            case "draw" -> values(number(0, 99999), number(0, 6));
            default -> values();
        };
    }

    private static Object[] values(Object... values) {
        return values;
    }

    private char letter(String letters) {
        return letters.charAt(lot.nextInt(letters.length()));
    }

    private int field() {
        return lot.nextInt(30) == 0 ? lot.nextInt(40) - 4 : lot.nextInt(oracle.fields());
    }

    private int number(int least, int most) {
        return lot.nextInt(30) == 0 ? lot.nextInt(most + 9) - 4 : least + lot.nextInt(most - least + 1);
    }

    private int index() {
        int moves = oracle.moves();
        return moves == 0 || lot.nextInt(30) == 0 ? lot.nextInt(moves + 4) - 2 : lot.nextInt(moves);
    }

    /** Those of a move that there is, or any. */
    private Object[] twoFields() {
        int index = index();
        boolean isMove = index >= 0 && index < oracle.moves();
        return isMove && lot.nextInt(3) > 0 ? values(oracle.from(index), oracle.to(index)) : values(field(), field());
    }

    /** A field with a piece of the side that does not move, or any. */
    private int huffed() {
        String others = oracle.side() == 0 ? "MK" : "mk";
        for (int i = 0; i < 20; i++) {
            int field = lot.nextInt(oracle.fields());
            if (others.indexOf(oracle.at(field)) >= 0) {
                return field;
            }
        }
        return field();
    }

    /** A number of moves that the Oracle can search through in good time. */
    private int depth(int least, int most) {
        if (lot.nextInt(30) == 0) {
            return lot.nextBoolean() ? least - 1 : most + 1;
        }
        int branches = Math.max(2, oracle.moves());
        int depth = 0;
        for (long all = branches; depth < most && all < 3000; all *= branches) {
            depth++;
        }
        return Math.max(least, depth - lot.nextInt(3));
    }

    /** A number of pieces; tables of three are dear on a board of 5 rows. */
    private int tableOf() {
        int number = number(1, 3);
        return number == 3 && oracle.fields() == 12 && lot.nextInt(20) > 0 ? 2 : number;
    }

    /** Makes a call on both, if it is not beyond the last one and none was wrong before. */
    private void make(String name, Object... args) {
        if (calls.size() == LAST_CALL || wrong != null) {
            return;
        }
        String call = name + List.of(args);
        calls.add(call);
        String got = Calls.on(board, name, args);
        String due = Calls.on(oracle, name, args);
        if (!got.equals(due)) {
            wrong = call + " answered " + got + ", due is " + due;
        }
    }
}
