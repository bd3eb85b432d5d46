import java.util.NoSuchElementException;

/** What the tests of the boundary cases have in common. */
abstract class Edges {
    static final Class<ArithmeticException> ARITHMETIC = ArithmeticException.class;
    static final Class<IllegalArgumentException> ARGUMENT = IllegalArgumentException.class;
    static final Class<IllegalStateException> STATE = IllegalStateException.class;
    static final Class<IndexOutOfBoundsException> INDEX = IndexOutOfBoundsException.class;
    static final Class<NoSuchElementException> NONE = NoSuchElementException.class;
    static final Class<UnsupportedOperationException> UNSUPPORTED = UnsupportedOperationException.class;
    static final int LEAST = Integer.MIN_VALUE;
    static final int GREATEST = Integer.MAX_VALUE;
    static final int MOST_KEPT = 120;

    /** A board with the side 1 to move. */
    static Huffboard turned(int rows, String laws, String pieces) {
        Huffboard board = Boards.of(rows, laws, pieces);
        board.turn(1);
        return board;
    }

    /** A game that is won by law 8, though pieces of the side that should move could. */
    static Huffboard wonByLaw8() {
        Huffboard board = Boards.of(6, "8=1", "m3 M5");
        board.play(0);
        return board;
    }

    /** A board whose fields all have that piece. */
    static Huffboard full(int rows, char piece) {
        Huffboard board = Boards.of(rows, "");
        for (int field = 0; field < board.fields(); field++) {
            board.put(field, piece);
        }
        return board;
    }

    /** A game of as many moves as are kept. */
    static Huffboard kept120() {
        return Boards.toAndFro("", MOST_KEPT);
    }

    /** A game that is drawn by law 9 just as 120 moves are kept. */
    static Huffboard drawnAt120() {
        Huffboard board = Boards.toAndFro("9=99", "k15 K2 m17", 20);
        board.move(17, 14);
        int[] from = {2, 15, 5, 12};
        int[] to = {5, 12, 2, 15};
        for (int i = 0; i < 99; i++) {
            board.move(from[i % 4], to[i % 4]);
        }
        return board;
    }
}
