import java.math.BigInteger;

/** Promises 40 to 45: barred moves, openings by lot, claims, and what a position can have come from. */
public final class BookTest {
    private static final Class<IllegalArgumentException> ARGUMENT = IllegalArgumentException.class;
    private static final Class<IndexOutOfBoundsException> INDEX = IndexOutOfBoundsException.class;
    private static final Class<IllegalStateException> STATE = IllegalStateException.class;
    private static final Class<UnsupportedOperationException> UNSUPPORTED = UnsupportedOperationException.class;

    public static void main(String[] args) {
        bar();
        unbar();
        draw();
        drawByLots();
        drawWithBars();
        drawToTheEnd();
        claim();
        refuted();
        sourcesOfMen();
        sourcesOfKings();
        sourcesByLaws();
        Check.end();
    }

    private static void bar() {
        Huffboard board = new Huffboard();
        Check.same("40: one", 1, board.bar(13, 10));
        Check.same("40: the other way", 2, board.bar(10, 13));
        Check.same("40: itself", 3, board.bar(5, 5));
        Check.fails("40: barred", UNSUPPORTED, board, () -> board.bar(13, 10));
        Check.fails("40: from 18", INDEX, board, () -> board.bar(18, 0));
        Check.fails("40: from -1", INDEX, board, () -> board.bar(-1, 0));
        Check.fails("40: to 18", INDEX, board, () -> board.bar(0, 18));
        Check.fails("40: to -1", INDEX, board, () -> board.bar(0, -1));
        for (int i = 4; i <= 10; i++) {
            Check.same("40: number " + i, i, board.bar(i, 17));
        }
        Check.fails("40: 10 are barred", STATE, board, () -> board.bar(0, 1));
        Check.fails("40: 10, this one too", UNSUPPORTED, board, () -> board.bar(4, 17));
        Check.fails("40: 10, no field", INDEX, board, () -> board.bar(0, 18));
        Check.same("41: as many as barred", 10, board.unbar());
    }

    private static void unbar() {
        Huffboard board = new Huffboard();
        Check.same("41: none", 0, board.unbar());
        board.bar(1, 2);
        board.bar(2, 1);
        Check.same("41: two", 2, board.unbar());
        Check.same("41: none left", 0, board.unbar());
        Check.same("40: again", 1, board.bar(1, 2));
    }

    private static void draw() {
        Huffboard board = new Huffboard();
        board.fill(2);
        for (int seed : new int[] {-1, 100000, Integer.MAX_VALUE, Integer.MIN_VALUE}) {
            Check.fails("42: seed " + seed, ARGUMENT, board, () -> board.draw(seed, 1));
        }
        for (int moves : new int[] {-1, 7, Integer.MAX_VALUE, Integer.MIN_VALUE}) {
            Check.fails("42: moves " + moves, ARGUMENT, board, () -> board.draw(1, moves));
        }
        Check.same("42: none told", 0, board.draw(1, 0));
        Check.same("42: none played", 0, board.played());
        Check.same("42: six told", 6, board.draw(99999, 6));
        Check.same("42: six played", 6, board.played());
        Check.same("42: from there on", 2, board.draw(0, 2));
        Check.same("42: eight played", 8, board.played());
    }

    private static void drawByLots() {
        for (int seed : new int[] {0, 1, 7, 4711, 65536, 99999}) {
            Huffboard board = new Huffboard();
            board.fill(2);
            Huffboard other = new Huffboard();
            other.fill(2);
            BigInteger z = BigInteger.valueOf(seed);
            for (int i = 0; i < 6; i++) {
                z = z.multiply(BigInteger.valueOf(1103515245)).add(BigInteger.valueOf(12345));
                z = z.mod(BigInteger.TWO.pow(31));
                other.play(z.shiftRight(16).intValue() % other.moves());
            }
            board.draw(seed, 6);
            Check.same("42: seed " + seed, Boards.print(other), Boards.print(board));
        }
    }

    private static void drawWithBars() {
        Huffboard board = Boards.of(6, "m13 M2");
        board.bar(13, 10);
        board.draw(3, 1);
        Check.same("42: the one that is not barred", "--M--------m------", Boards.pieces(board));
        board.back();
        board.bar(13, 11);
        Check.same("42: all are barred", 0, board.draw(3, 6));
        Check.same("42: nothing moved", "--M----------m----", Boards.pieces(board));
        Check.same("42: a barred move can be played", 'p', board.move(13, 10));
        board.bar(2, 5);
        Check.same("42: of the other side too", 0, board.draw(3, 6));
        for (int seed = 0; seed < 20; seed++) {
            placed(seed);
        }
    }

    /** The place of the move is told among those that are not barred. */
    private static void placed(int seed) {
        Huffboard board = new Huffboard();
        board.fill(2);
        board.bar(board.from(0), board.to(0));
        board.bar(board.from(3), board.to(3));
        int[] open = {1, 2, 4};
        long z = (seed * 1103515245L + 12345) % 2147483648L;
        int move = open[(int) (z / 65536 % open.length)];
        String due = board.from(move) + ">" + board.to(move);
        Huffboard other = new Huffboard();
        other.fill(2);
        other.play(move);
        board.draw(seed, 1);
        Check.same("42: with two barred, " + seed + " " + due, Boards.pieces(other), Boards.pieces(board));
    }

    private static void drawToTheEnd() {
        Huffboard board = Boards.of(6, "m13 M10");
        Check.same("42: the game is over behind one", 1, board.draw(5, 6));
        Check.same("42: the game is over", 0, board.draw(5, 6));
        Check.same("42: drawn behind two", 2, Boards.of(6, "9=2", "k15 K2").draw(5, 6));
        Check.same("42: nothing there", 0, new Huffboard().draw(5, 6));
    }

    private static void claim() {
        Huffboard board = Boards.of(4, "m7 M1");
        for (char value : new char[] {'x', 'W', 0, '-'}) {
            Check.fails("43: " + value, ARGUMENT, board, () -> board.claim(value));
        }
        for (int i = 1; i <= 20; i++) {
            Check.same("43: number " + i, i, board.claim("wld".charAt(i % 3)));
        }
        Check.fails("43: 20 are there", STATE, board, () -> board.claim('w'));
        Check.fails("43: 20 are there, no value", ARGUMENT, board, () -> board.claim('x'));
        board.board(4);
        Check.same("43: another board", 1, board.claim('w'));
    }

    private static void refuted() {
        Huffboard board = Boards.of(4, "m7 M1");
        board.claim('w');
        board.claim('l');
        board.claim('d');
        Check.same("44: no table", 0, board.refuted());
        board.solve(1);
        Check.same("44: not in the table", 0, board.refuted());
        board.solve(2);
        Check.same("44: two of three", 2, board.refuted());
        board.turn(1);
        board.claim(board.value());
        Check.same("44: a true one", 2, board.refuted());
        board.claim(board.value() == 'w' ? 'l' : 'w');
        Check.same("44: a false one", 3, board.refuted());
        Check.same("44: the board stays", "-M-----m", Boards.pieces(board));
        Check.same("44: the side stays", 1, board.side());
        board.play(0);
        Check.same("44: also in a game", 3, board.refuted());
        board.back();
        board.law(0, 1);
        Check.same("44: the table is gone", 0, board.refuted());
        board.solve(2);
        Check.yes("44: another table", board.refuted() > 0);
    }

    private static int sources(int size, String laws, String pieces, int side) {
        Huffboard board = Boards.of(size, laws, pieces);
        board.turn(side);
        int sources = board.sources();
        Check.same("45: the board stays", side, board.side());
        return sources;
    }

    private static void sourcesOfMen() {
        Check.same("45: a man in the middle", 2, sources(6, "", "M7", 0));
        Check.same("45: not of the side that moves", 0, sources(6, "", "M7", 1));
        Check.same("45: a man of the side 0", 2, sources(6, "", "m7", 1));
        Check.same("45: one way is taken", 1, sources(6, "", "M7 m4", 0));
        Check.same("45: at the edge", 1, sources(6, "", "M9", 0));
        Check.same("45: on the first row", 0, sources(6, "", "M1", 0));
        Check.same("45: two men", 4, sources(6, "", "M7 M12", 0));
        Check.same("45: none", 0, new Huffboard().sources());
        Check.same("45: men do not fly", 2, sources(6, "1=1", "M7", 0));
    }

    private static void sourcesOfKings() {
        Check.same("45: a king", 4, sources(6, "", "K7", 0));
        Check.same("45: a flying king", 9, sources(6, "1=1", "K7", 0));
        Check.same("45: a king on its last row", 4, sources(6, "", "K16", 0));
        Check.same("45: a king in the corner", 2, sources(6, "", "K15", 0));
        Check.same("45: a king on the first row", 2, sources(6, "", "K1", 0));
        Check.same("45: a flying king on its last row", 7, sources(6, "1=1", "K16", 0));
        Check.same("45: a king of the side 0 on its last row", 4, sources(6, "", "k1", 1));
        Check.same("45: a king of the side 0 in the corner", 4, sources(6, "", "k0", 1));
        Check.same("45: not over a piece", 6, sources(6, "1=1 6=0", "K7 k10", 0));
        Check.same("45: nor where it could capture that one", 4, sources(6, "1=1", "K7 k10", 0));
    }

    private static void sourcesByLaws() {
        Check.same("45: one must capture there", 2, sources(6, "", "M4 m7 M8", 0));
        Check.same("45: law 6 is 0", 3, sources(6, "6=0", "M4 m7 M8", 0));
        Check.same("45: law 8, a king that moves now", 0, sources(6, "8=1", "M7 k15", 0));
        Check.same("45: law 8, no king", 2, sources(6, "8=1", "M7 m15", 0));
        Check.same("45: law 8, a king that moved", 4, sources(6, "8=1", "K7", 0));
        Huffboard board = Boards.of(6, "M4 m13");
        board.play(0);
        Check.same("45: in a game", 2, board.sources());
    }
}
