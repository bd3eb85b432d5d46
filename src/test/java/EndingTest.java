/** Promises 30 to 35 and 49: tables, and whether all is sound. */
public final class EndingTest {
    private static final Class<IllegalArgumentException> ARGUMENT = IllegalArgumentException.class;
    private static final Class<IllegalStateException> STATE = IllegalStateException.class;
    private static final Class<UnsupportedOperationException> UNSUPPORTED = UnsupportedOperationException.class;
    private static final Class<java.util.NoSuchElementException> NONE = java.util.NoSuchElementException.class;

    public static void main(String[] args) {
        solve();
        solveWrongly();
        noTable();
        gone();
        stays();
        value();
        valueOfOnePiece();
        notInTheTable();
        count();
        longest();
        best();
        bestByPlaying();
        sound();
        soundInGames();
        Check.end();
    }

    private static void solve() {
        Huffboard board = new Huffboard();
        board.board(4);
        Check.same("30: 4 rows, 1", 56, board.solve(1));
        Check.same("30: 4 rows, 2", 740, board.solve(2));
        Check.same("30: 4 rows, 3", 5500, board.solve(3));
        Check.same("30: 4 rows, 1 again", 56, board.solve(1));
        Check.fails("33: no more of two", ARGUMENT, board, () -> board.count('w', 2));
        board.board(5);
        Check.same("30: 5 rows, 1", 88, board.solve(1));
        Check.same("30: 5 rows, 2", 1860, board.solve(2));
        Check.same("30: 5 rows, 3", all(5, 3), board.solve(3));
        Check.same("30: the board stays", "------------", Boards.pieces(board));
        Check.same("30: the side stays", 0, board.side());
    }

    /** How many positions there are with at most so many pieces, counted piece by piece. */
    private static int all(int size, int most) {
        int fields = size * size / 2;
        int last = size / 2;
        int sum = 0;
        for (int a = 0; a < fields; a++) {
            sum += 2 * kinds(a, fields, last);
            for (int b = a + 1; b < fields && most > 1; b++) {
                sum += 2 * kinds(a, fields, last) * kinds(b, fields, last);
                for (int c = b + 1; c < fields && most > 2; c++) {
                    sum += 2 * kinds(a, fields, last) * kinds(b, fields, last) * kinds(c, fields, last);
                }
            }
        }
        return sum;
    }

    private static int kinds(int field, int fields, int last) {
        return field < last || field >= fields - last ? 3 : 4;
    }

    private static void solveWrongly() {
        Huffboard board = Boards.of(4, "m7 M1");
        board.solve(2);
        for (int pieces : new int[] {0, 4, -1, Integer.MAX_VALUE, Integer.MIN_VALUE}) {
            Check.fails("30: " + pieces, ARGUMENT, board, () -> board.solve(pieces));
        }
        Check.same("32: the table stays", 3, board.distance());
        for (int size = 6; size <= 8; size++) {
            board.board(size);
            Check.fails("30: rows " + size, UNSUPPORTED, board, () -> board.solve(1));
            Check.fails("30: rows and number, " + size, ARGUMENT, board, () -> board.solve(0));
        }
    }

    private static void noTable() {
        Huffboard board = Boards.of(4, "m7 M1");
        Check.fails("31: no table", STATE, board, board::value);
        Check.fails("32: no table", STATE, board, board::distance);
        Check.fails("33: no table", STATE, board, () -> board.count('x', 9));
        Check.fails("34: no table", STATE, board, board::longest);
        Check.fails("35: no table", STATE, board, board::best);
        Check.yes("49: no table", board.isSound());
    }

    private static void gone() {
        for (int i = 0; i < 9; i++) {
            int law = i;
            Huffboard board = Boards.of(4, "m7 M1");
            board.solve(1);
            int value = board.law(law, 0);
            board.solve(1);
            board.law(law, 0);
            Check.yes("34: the same value of " + law, board.longest() >= 0);
            board.law(law, 1);
            Check.fails("34: another value of " + law, STATE, board, board::longest);
            board.law(law, value);
            Check.fails("34: the old value of " + law, STATE, board, board::longest);
        }
        Huffboard board = Boards.of(4, "m7 M1");
        board.solve(2);
        board.board(4);
        Check.fails("34: laid anew", STATE, board, board::longest);
    }

    private static void stays() {
        Huffboard board = Boards.of(4, "m7 M1");
        board.solve(2);
        int longest = board.longest();
        board.law(9, 7);
        board.law(10, 3);
        board.put(0, 'k');
        board.fill(1);
        board.turn(1);
        board.play(0);
        board.back();
        Check.fails("34: a value out of range", ARGUMENT, board, () -> board.law(0, 2));
        Check.fails("34: a board out of range", ARGUMENT, board, () -> board.board(9));
        Check.same("34: it stays", longest, board.longest());
    }

    private static void value() {
        Huffboard board = Boards.of(4, "m7 M1");
        board.solve(2);
        char[] values = {'w', 'l', 'w', 'l'};
        for (int i = 0; i < values.length; i++) {
            Check.same("31: behind " + i, values[i], board.value());
            Check.same("32: behind " + i, values.length - 1 - i, board.distance());
            if (board.moves() > 0) {
                board.play(0);
            }
        }
        Huffboard kings = Boards.of(4, "k7 K0");
        kings.solve(2);
        Check.same("31: drawn", 'd', kings.value());
        Check.same("32: drawn", -1, kings.distance());
        Huffboard draws = Boards.of(4, "9=1 10=1", "m7 M1");
        draws.solve(2);
        Check.same("31: laws 9 and 10 aside", 'w', draws.value());
        Check.same("32: laws 9 and 10 aside", 3, draws.distance());
    }

    private static String entry(String laws, String pieces, int side) {
        Huffboard board = Boards.of(4, laws, pieces);
        board.turn(side);
        board.solve(1);
        return board.value() + " " + board.distance();
    }

    private static void valueOfOnePiece() {
        Check.same("31: it moves", "w 1", entry("", "m7", 0));
        Check.same("31: it has moved", "l 0", entry("", "m7", 1));
        Check.same("31: of the side 1", "w 1", entry("", "M1", 1));
        Check.same("31: law 7, it moves", "l 1", entry("7=1", "m7", 0));
        Check.same("31: law 7, it has moved", "w 0", entry("7=1", "m7", 1));
        Check.same("31: law 8, a king that moves", "w 1", entry("8=1", "k7", 0));
        Check.same("31: law 8, a king that has moved", "l 0", entry("8=1", "k7", 1));
        Check.same("31: law 8 ahead of law 7", "l 0", entry("7=1 8=1", "k7", 1));
        Check.same("31: laws 7 and 8, a king that moves", "w 1", entry("7=1 8=1", "k7", 0));
        Check.same("31: laws 7 and 8, a man that moves", "l 1", entry("7=1 8=1", "m7", 0));
        Check.same("31: laws 7 and 8, a crowning", "w 1", entry("7=1 8=1", "m3", 0));
    }

    private static void notInTheTable() {
        Huffboard board = Boards.of(4, "m7 M1");
        board.solve(1);
        Check.fails("31: too many pieces", NONE, board, board::value);
        Check.fails("32: too many pieces", NONE, board, board::distance);
        Check.fails("35: too many pieces", NONE, board, board::best);
        board.fill(0);
        Check.fails("31: no pieces", NONE, board, board::value);
        Check.fails("32: no pieces", NONE, board, board::distance);
        Check.fails("35: no pieces", NONE, board, board::best);
        Boards.lay(board, "M1");
        Check.fails("35: no move", NONE, board, board::best);
        Check.same("31: lost", 'l', board.value());
    }

    private static void count() {
        Huffboard board = new Huffboard();
        board.board(4);
        board.solve(2);
        Check.same("33: won, 1", 28, board.count('w', 1));
        Check.same("33: lost, 1", 28, board.count('l', 1));
        Check.same("33: drawn, 1", 0, board.count('d', 1));
        Check.same("33: won, 2", 278, board.count('w', 2));
        Check.same("33: lost, 2", 218, board.count('l', 2));
        Check.same("33: drawn, 2", 188, board.count('d', 2));
        for (int pieces : new int[] {3, 0, -1, Integer.MAX_VALUE, Integer.MIN_VALUE}) {
            Check.fails("33: of " + pieces, ARGUMENT, board, () -> board.count('w', pieces));
        }
        for (char value : new char[] {'x', 'W', 0, 'm'}) {
            Check.fails("33: " + value, ARGUMENT, board, () -> board.count(value, 1));
        }
        board.law(7, 1);
        board.solve(1);
        Check.same("33: law 7, won", 28, board.count('w', 1));
        board.board(5);
        int sum = 0;
        board.solve(3);
        for (int pieces = 1; pieces <= 3; pieces++) {
            sum += board.count('w', pieces) + board.count('l', pieces) + board.count('d', pieces);
        }
        Check.same("33: all", all(5, 3), sum);
    }

    private static void longest() {
        Huffboard board = new Huffboard();
        board.board(4);
        board.solve(1);
        Check.same("34: one piece", 1, board.longest());
        board.solve(2);
        Check.same("34: two pieces", 5, board.longest());
        board.law(7, 1);
        board.solve(1);
        Check.same("34: one piece, law 7", 0, board.longest());
        board.law(8, 1);
        board.solve(1);
        Check.same("34: one piece, laws 7 and 8", 1, board.longest());
    }

    private static void best() {
        Huffboard board = Boards.of(4, "m7 M1");
        board.solve(2);
        Check.same("35: the first of two", 0, board.best());
        Huffboard drawn = Boards.of(4, "k7 K0");
        drawn.solve(3);
        Check.same("35: drawn", 0, drawn.best());
        Huffboard crowning = Boards.of(4, "8=1", "m7 m2");
        crowning.solve(2);
        Check.same("35: moves", "2>0+ 7>4 7>5", Boards.moves(crowning));
        Check.same("35: won at once", 0, crowning.best());
        Huffboard second = Boards.of(5, "7=1", "m8 M3");
        second.solve(2);
        Check.same("35: moves of the second", "8>5 8>6", Boards.moves(second));
        Huffboard over = Boards.of(4, "10=1", "m7 M1");
        over.solve(2);
        Check.fails("35: drawn, no move", NONE, over, over::best);
    }

    /** Where the table has won or lost, best moves on both sides make just so many moves. */
    private static void bestByPlaying() {
        for (String pieces : new String[] {"k3 k9 M2", "k11 K0 k5", "m10 m11 M0", "k1 M4", "m8 k2 K11", "k6 k8 M1"}) {
            for (String laws : new String[] {"", "1=1", "7=1", "8=1", "6=0 1=1", "7=1 8=1"}) {
                Huffboard board = Boards.of(5, laws, pieces);
                board.solve(3);
                playBest(board, laws + ": " + pieces);
            }
        }
    }

    private static void playBest(Huffboard board, String what) {
        int left = board.distance();
        for (int i = 0; i < 20 && board.moves() > 0; i++) {
            char value = board.value();
            boolean isOpen = board.distance() > 0;
            board.play(board.best());
            char due = value == 'w' ? 'l' : value == 'l' ? 'w' : 'd';
            if (isOpen || value == 'd') {
                left = value == 'd' ? -1 : left - 1;
                Check.same("35: value behind, " + what, due, board.value());
                Check.same("35: distance behind, " + what, left, board.distance());
            }
        }
    }

    private static void sound() {
        Check.yes("49: new", new Huffboard().isSound());
        for (int laws = 0; laws < 64; laws++) {
            Huffboard board = Boards.of(5, "k2 m8 K9");
            board.law(0, laws & 1);
            board.law(1, laws >> 1 & 1);
            board.law(4, laws >> 2 & 1);
            board.law(6, laws >> 3 & 1);
            board.law(7, laws >> 4 & 1);
            board.law(8, laws >> 5 & 1);
            board.solve(laws % 8 == 0 ? 3 : 2);
            Check.yes("49: laws " + laws, board.isSound());
        }
    }

    private static void soundInGames() {
        Huffboard board = Boards.of(6, "6=0", "m12 m13 M10 M0");
        board.move(12, 9);
        board.huff(13);
        String before = Boards.print(board);
        Check.yes("49: behind huffing", board.isSound());
        Check.same("49: all stays", before, Boards.print(board));
        board.play(0);
        Check.yes("49: behind it", board.isSound());
        board = Boards.of(4, "m7 M1");
        board.solve(2);
        while (board.moves() > 0) {
            board.play(0);
            Check.yes("49: behind a move", board.isSound());
        }
        Check.same("24: back", 2, board.back());
        Check.yes("49: taken back", board.isSound());
    }
}
