import java.lang.reflect.InvocationTargetException;
import java.lang.reflect.Method;
import java.util.ArrayList;
import java.util.List;
import java.util.Random;

/** Long runs of calls by lot, the same for the class and for the Oracle: all answers must be alike. */
public final class OracleTest {
    private static final int RUNS = 1500;
    private static final int CALLS = 120;

    private final Random lot;
    private final Huffboard board = new Huffboard();
    private final Oracle oracle = new Oracle();
    private final List<String> calls = new ArrayList<>();

    private OracleTest(long seed) {
        lot = new Random(seed);
    }

    public static void main(String[] args) throws Exception {
        int runs = args.length > 1 ? Integer.parseInt(args[1]) : RUNS;
        long first = args.length > 0 ? Long.parseLong(args[0]) : 1;
        for (long seed = first; seed < first + runs; seed++) {
            OracleTest run = new OracleTest(seed);
            String wrong = run.play();
            if (wrong != null) {
                System.out.println("seed " + seed + ": " + wrong);
                for (String call : run.calls) {
                    System.out.println("  " + call);
                }
                System.exit(1);
            }
        }
        System.out.println(runs + " runs are as the oracle says");
    }

    private String play() throws Exception {
        setUp();
        for (int i = 0; i < CALLS; i++) {
            String wrong = next();
            if (wrong != null) {
                return wrong;
            }
        }
        return null;
    }

    private void setUp() throws Exception {
        same("board", lot.nextInt(10) < 6 ? 4 + lot.nextInt(2) : 4 + lot.nextInt(5));
        for (int law = 0; law < 9; law++) {
            same("law", law, lot.nextInt(law == 2 || law == 5 ? 3 : 2));
        }
        if (lot.nextInt(3) == 0) {
            same("law", 8, 0);
        }
        same("law", 9, lot.nextInt(3) == 0 ? 1 + lot.nextInt(6) : 0);
        same("law", 10, lot.nextInt(3) == 0 ? 1 + lot.nextInt(4) : 0);
        if (lot.nextInt(4) == 0) {
            same("fill", 1 + lot.nextInt(oracle.fields() > 17 ? 2 : 1));
        } else {
            int most = lot.nextBoolean() ? 4 : oracle.fields() / 2;
            for (int i = 1 + lot.nextInt(most); i > 0; i--) {
                same("put", lot.nextInt(oracle.fields()), "mkMK".charAt(lot.nextInt(4)));
            }
        }
        same("turn", lot.nextInt(2));
    }

    private String next() throws Exception {
        int kind = lot.nextInt(100);
        if (kind < 25) {
            return askBoard();
        }
        if (kind < 45) {
            return askMoves();
        }
        if (kind < 70) {
            return playOn();
        }
        if (kind < 85) {
            return askEnding();
        }
        if (kind < 93) {
            return askProof();
        }
        return change();
    }

    private int field() {
        return lot.nextInt(30) == 0 ? lot.nextInt(40) - 4 : lot.nextInt(oracle.fields());
    }

    private int number(int least, int most) {
        return lot.nextInt(30) == 0 ? lot.nextInt(most + 9) - 4 : least + lot.nextInt(most - least + 1);
    }

    private int index() {
        int moves = oracle.moves();
        return moves == 0 || lot.nextInt(30) == 0 ? lot.nextInt(moves + 4) - 2 : lot.nextInt(moves);
    }

    private String askBoard() throws Exception {
        switch (lot.nextInt(11)) {
            case 0: return same("at", field());
            case 1: return same("pieces", number(0, 1), lot.nextBoolean());
            case 2: return same("side");
            case 3: return same("beside", field(), number(0, 3));
            case 4: return same("fields");
            case 5: return same("crownShare");
            case 6: return same("state");
            case 7: return same("calm");
            case 8: return same("seen");
            case 9: return same("sources");
            default: return same("checksum");
        }
    }

    private String askMoves() throws Exception {
        switch (lot.nextInt(9)) {
            case 0: return same("moves");
            case 1: return same("from", index());
            case 2: return same("to", index());
            case 3: return same("captured", index());
            case 4: return same("captures", index(), field());
            case 5: return same("crowns", index());
            case 6: return same("told", field(), field());
            case 7: return same("huffs");
            default: return same("meanMoves");
        }
    }

    private String playOn() throws Exception {
        switch (lot.nextInt(8)) {
            case 0:
            case 1:
                return same("play", index());
            case 2: {
                int index = index();
                boolean isMove = index >= 0 && index < oracle.moves();
                return isMove ? same("move", oracle.from(index), oracle.to(index)) : same("move", field(), field());
            }
            case 3: return same("move", field(), field());
            case 4: return same("why");
            case 5: return lot.nextInt(3) == 0 ? same("back") : same("played");
            case 6: return same("huff", field());
            default: return lot.nextInt(3) == 0 ? same("draw", number(0, 99999), number(0, 6)) : same("huffs");
        }
    }

    private String askEnding() throws Exception {
        switch (lot.nextInt(9)) {
            case 0: {
                int most = oracle.fields() < 10 ? lot.nextInt(5) == 0 ? 3 : 2 : lot.nextInt(60) == 0 ? 3 : 2;
                return lot.nextInt(3) == 0 ? same("solve", number(1, most) > most ? 4 : number(1, most)) : null;
            }
            case 1: return same("value");
            case 2: return same("distance");
            case 3: return same("count", "wldx".charAt(lot.nextInt(4)), number(1, 3));
            case 4: return same("longest");
            case 5: return same("best");
            case 6: return same("claim", "wldx".charAt(number(0, 2) & 3));
            case 7: return same("refuted");
            default: return lot.nextInt(4) == 0 ? same("isSound") : null;
        }
    }

    /** A number of moves that the Oracle can search through in good time. */
    private int depth(int least, int most) {
        int branches = Math.max(2, oracle.moves());
        int depth = 0;
        for (long all = branches; depth < most && all < 3000; all *= branches) {
            depth++;
        }
        return lot.nextInt(30) == 0 ? lot.nextBoolean() ? least - 1 : most + 1 : Math.max(least, lot.nextInt(depth + 1));
    }

    private String askProof() throws Exception {
        switch (lot.nextInt(5)) {
            case 0: return same("lines", depth(0, 4));
            case 1: return same("proves", depth(0, 6));
            case 2: return same("keys", depth(1, 6));
            case 3: return same("keyAt", depth(1, 6), lot.nextInt(4) - 1);
            default: return same("duals", depth(1, 6));
        }
    }

    private String change() throws Exception {
        switch (lot.nextInt(12)) {
            case 0: return same("law", number(0, 10), number(0, 2));
            case 1:
            case 2:
            case 3: return same("put", field(), "mkMK-x".charAt(lot.nextInt(6)));
            case 4: return same("turn", number(0, 1));
            case 5: return lot.nextInt(4) == 0 ? same("fill", number(0, 2)) : null;
            case 6: return lot.nextInt(8) == 0 ? same("board", number(4, 8)) : null;
            case 7: return lot.nextInt(4) == 0 ? same("unbar") : null;
            case 8: return same("bar", field(), field());
            default: {
                int index = index();
                boolean isMove = index >= 0 && index < oracle.moves();
                return isMove ? same("bar", oracle.from(index), oracle.to(index)) : same("back");
            }
        }
    }

    private String same(String name, Object... args) throws Exception {
        String call = name + List.of(args);
        calls.add(call);
        String got = answer(board, name, args);
        String due = answer(oracle, name, args);
        if (!got.equals(due)) {
            return call + " answered " + got + ", due is " + due;
        }
        String sumGot = answer(board, "checksum");
        String sumDue = answer(oracle, "checksum");
        return sumGot.equals(sumDue) ? null : "behind " + call + " the position is another one";
    }

    private static String answer(Object object, String name, Object... args) throws Exception {
        for (Method method : object.getClass().getMethods()) {
            if (method.getName().equals(name) && method.getDeclaringClass() == object.getClass()) {
                try {
                    return String.valueOf(method.invoke(object, args));
                } catch (InvocationTargetException e) {
                    return e.getCause().getClass().getSimpleName();
                }
            }
        }
        throw new IllegalStateException(name);
    }
}
