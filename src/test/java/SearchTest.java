/** Promises 29, 36 to 39 and 47: lines, proofs, keys and duals, and the moves behind the moves. */
public final class SearchTest {
    private static final Class<IllegalArgumentException> ARGUMENT = IllegalArgumentException.class;
    private static final Class<java.util.NoSuchElementException> NONE = java.util.NoSuchElementException.class;

    public static void main(String[] args) {
        lines();
        linesThatEnd();
        meanMoves();
        proves();
        provesByLaws();
        keys();
        keysByLaws();
        keysByPlayingOn();
        keyAt();
        duals();
        wrongNumbers();
        Check.end();
    }

    private static void lines() {
        Huffboard board = new Huffboard();
        board.fill(2);
        int[] due = {1, 5, 25};
        for (int depth = 0; depth < due.length; depth++) {
            Check.same("29: depth " + depth, due[depth], board.lines(depth));
        }
        Huffboard corners = Boards.of(4, "k6 K1");
        int[] inCorners = {1, 1, 1, 1, 0};
        for (int depth = 0; depth < inCorners.length; depth++) {
            Check.same("29: in corners " + depth, inCorners[depth], corners.lines(depth));
        }
        Check.same("29: law 6 is 0", 2, Boards.of(6, "6=0", "m13 M10").lines(1));
        Huffboard men = Boards.of(6, "m13 M4");
        Check.same("29: two men, 2", 4, men.lines(2));
        Check.same("29: two men, 3", 5, men.lines(3));
        Check.same("29: the board stays", "----M--------m----", Boards.pieces(men));
    }

    private static void linesThatEnd() {
        Huffboard board = new Huffboard();
        Check.same("29: over, none", 1, board.lines(0));
        Check.same("29: over, one", 0, board.lines(1));
        Check.same("29: a crowning goes on", 2, Boards.of(6, "m3 M5").lines(2));
        Check.same("29: a crowning ends it", 0, Boards.of(6, "8=1", "m3 M5").lines(2));
        Check.same("29: a king that does not move", 0, Boards.of(6, "8=1", "m13 K2").lines(1));
        Check.same("29: none ahead of that", 1, Boards.of(6, "8=1", "m13 K2").lines(0));
        Check.same("29: a king that moves", 2, Boards.of(6, "8=1", "k17 M2").lines(1));
        Check.same("29: draws aside", 2, Boards.of(6, "10=1", "m13 M4").lines(1));
        Check.same("29: draws behind aside", 1, Boards.of(6, "9=1", "k15 K2").lines(2));
        for (int depth : new int[] {-1, 5, Integer.MAX_VALUE, Integer.MIN_VALUE}) {
            Check.fails("29: depth " + depth, ARGUMENT, board, () -> board.lines(depth));
        }
    }

    private static void meanMoves() {
        Huffboard board = new Huffboard();
        board.fill(2);
        Check.same("47: at first", 5.0, board.meanMoves());
        Check.same("47: a half", 1.5, Boards.of(6, "m13 M6").meanMoves());
        Check.same("47: thirds", 5.0 / 3.0, Boards.of(6, "m3 m13 M6").meanMoves());
        Check.same("47: law 8 behind them", 1.0, Boards.of(6, "8=1", "m3 m13 M6").meanMoves());
        Check.same("47: none behind", 0.0, Boards.of(6, "m13").meanMoves());
        Check.same("47: draws behind aside", 1.0, Boards.of(6, "9=1", "k15 K2").meanMoves());
        Huffboard over = new Huffboard();
        Check.fails("47: over", ArithmeticException.class, over, over::meanMoves);
        Huffboard drawn = Boards.of(6, "10=1", "m13 M4");
        Check.fails("47: drawn", ArithmeticException.class, drawn, drawn::meanMoves);
    }

    /** What proves tells for 0 to 6 moves, as a text of 0 and 1. */
    private static String proofs(Huffboard board) {
        StringBuilder text = new StringBuilder();
        for (int moves = 0; moves <= 6; moves++) {
            text.append(board.proves(moves) ? '1' : '0');
        }
        return text.toString();
    }

    private static void proves() {
        Check.same("36: a capture", "0111111", proofs(Boards.of(6, "m13 M10")));
        Check.same("36: in three", "0001111", proofs(Boards.of(4, "m7 M1")));
        Check.same("36: lost", "0000000", proofs(Boards.of(6, "M10")));
        Check.same("36: drawn kings", "0000000", proofs(Boards.of(4, "k7 K0")));
        Huffboard board = Boards.of(6, "M4 m7");
        board.turn(1);
        Check.same("36: by the side 1", "0111111", proofs(board));
        Check.same("36: the board stays", "----M--m----------", Boards.pieces(board));
    }

    private static void provesByLaws() {
        Check.same("36: law 7, won already", "1111111", proofs(Boards.of(6, "7=1", "M10")));
        Check.same("36: law 7, it must capture", "0000000", proofs(Boards.of(6, "7=1", "m13 M10")));
        Check.same("36: law 7, it is captured", "0011111", proofs(Boards.of(6, "7=1", "m13 M6")));
        Check.same("36: law 8, a crowning", "0111111", proofs(Boards.of(6, "8=1", "m3 M5")));
        Check.same("36: law 8, a king of the other side", "0000000", proofs(Boards.of(6, "8=1", "m3 K17")));
        Check.same("36: laws 7 and 8", "1111111", proofs(Boards.of(6, "7=1 8=1", "M10")));
        Check.same("36: law 8 ahead of law 7", "0000000", proofs(Boards.of(6, "7=1 8=1", "K10")));
        Check.same("36: laws 7 and 8, a crowning", "0111111", proofs(Boards.of(6, "7=1 8=1", "m3 M5")));
        Check.same("36: laws 7 and 8, it is captured", "0011111", proofs(Boards.of(6, "7=1 8=1", "m13 M6")));
        Check.same("36: draws aside", "0111111", proofs(Boards.of(6, "10=1", "m13 M10")));
        Check.same("36: draws behind aside", "0001111", proofs(Boards.of(4, "10=1 9=1", "m7 M1")));
    }

    private static void keys() {
        Huffboard board = Boards.of(4, "m7 M1");
        int[] due = {0, 0, 2, 2, 2, 2};
        for (int moves = 1; moves <= 6; moves++) {
            Check.same("37: in " + moves, due[moves - 1], board.keys(moves));
        }
        Check.same("37: a capture", 1, Boards.of(6, "m13 M10").keys(1));
        Check.same("37: two captures", 2, Boards.of(6, "m13 m12 M10").keys(1));
        Check.same("37: lost", 0, Boards.of(6, "M10").keys(6));
    }

    private static void keysByLaws() {
        Check.same("37: law 7, won already", 0, Boards.of(6, "7=1", "M10").keys(3));
        Check.same("37: law 7, one of two", 1, Boards.of(6, "7=1", "m13 M6").keys(2));
        Check.same("37: law 8", 1, Boards.of(6, "8=1", "m3 m13 M5").keys(1));
        Huffboard lost = Boards.of(6, "8=1", "m3 K17");
        Check.same("37: law 8, lost, though there are moves", 1, lost.moves());
        Check.same("37: law 8, lost", 0, lost.keys(6));
        Check.same("37: draws aside", 1, Boards.of(6, "10=1", "m13 M10").keys(1));
    }

    private static void keysByPlayingOn() {
        Huffboard board = Boards.of(5, "m11 m10 M0");
        for (int moves = 1; moves <= 6; moves++) {
            int sum = 0;
            for (int i = 0; i < board.moves(); i++) {
                board.play(i);
                sum += everyAnswerLoses(board, moves - 1) ? 1 : 0;
                board.back();
            }
            Check.same("37: by playing on, " + moves, sum, board.keys(moves));
        }
    }

    private static boolean everyAnswerLoses(Huffboard board, int left) {
        if (board.state() != 'p') {
            return board.state() != '0' + board.side();
        }
        boolean loses = left > 0;
        for (int i = 0; i < board.moves() && loses; i++) {
            board.play(i);
            loses = board.proves(left - 1);
            board.back();
        }
        return loses;
    }

    private static void keyAt() {
        Huffboard board = Boards.of(4, "m7 M1");
        Check.same("38: first", 0, board.keyAt(3, 0));
        Check.same("38: second", 1, board.keyAt(3, 1));
        Check.fails("38: third", NONE, board, () -> board.keyAt(3, 2));
        Check.fails("38: -1", NONE, board, () -> board.keyAt(3, -1));
        Check.fails("38: in two moves", NONE, board, () -> board.keyAt(2, 0));
        Huffboard second = Boards.of(6, "8=1", "m9 m5 M12");
        Check.same("38: moves", "5>1+ 5>2+ 9>6", Boards.moves(second));
        Check.same("38: by law 8", 1, second.keyAt(1, 1));
        Huffboard last = Boards.of(6, "8=1", "m3 k17 M14 M6");
        Check.same("38: draws aside", 0, Boards.of(6, "10=1", "m13 M10").keyAt(1, 0));
        Check.same("38: all of its moves", last.moves(), last.keys(1));
        Check.fails("38: behind all of them", NONE, last, () -> last.keyAt(1, last.moves()));
    }

    private static void duals() {
        Check.same("39: two captures", 1, Boards.of(6, "m13 m12 M10").duals(1));
        Check.same("39: one capture", 0, Boards.of(6, "m13 M10").duals(1));
        Huffboard board = Boards.of(4, "m7 M1");
        for (int moves = 3; moves <= 6; moves++) {
            Check.same("39: first two keys, then one, " + moves, 1, board.duals(moves));
        }
        Check.fails("39: no key", NONE, board, () -> board.duals(2));
        Check.same("39: the board stays", "-M-----m", Boards.pieces(board));
        Check.same("39: law 7", 0, Boards.of(6, "7=1", "m13 M6").duals(2));
        Huffboard won = Boards.of(6, "7=1", "M10");
        Check.fails("39: won already", NONE, won, () -> won.duals(4));
        Check.same("39: draws aside", 0, Boards.of(6, "10=1", "m13 M10").duals(1));
    }

    private static void wrongNumbers() {
        Huffboard board = Boards.of(6, "m13 M10");
        for (int moves : new int[] {-1, 7, Integer.MAX_VALUE, Integer.MIN_VALUE}) {
            Check.fails("36: " + moves, ARGUMENT, board, () -> board.proves(moves));
        }
        for (int moves : new int[] {0, -1, 7, Integer.MAX_VALUE, Integer.MIN_VALUE}) {
            Check.fails("37: " + moves, ARGUMENT, board, () -> board.keys(moves));
            Check.fails("38: " + moves, ARGUMENT, board, () -> board.keyAt(moves, 9));
            Check.fails("39: " + moves, ARGUMENT, board, () -> board.duals(moves));
        }
    }
}
