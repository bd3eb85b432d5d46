/** Promises 1 to 11, 46 and 48: the board, its laws, what stands on it. */
public final class BoardTest {
    private static final Class<IllegalArgumentException> ARGUMENT = IllegalArgumentException.class;
    private static final Class<IndexOutOfBoundsException> INDEX = IndexOutOfBoundsException.class;
    private static final Class<UnsupportedOperationException> UNSUPPORTED = UnsupportedOperationException.class;

    public static void main(String[] args) {
        newObject();
        board();
        boardTakesAndLeaves();
        law();
        put();
        fill();
        turn();
        fields();
        at();
        pieces();
        side();
        beside();
        crownShare();
        checksum();
        Check.end();
    }

    private static void newObject() {
        Huffboard board = new Huffboard();
        Check.same("1: fields", 18, board.fields());
        Check.same("1: pieces", "------------------", Boards.pieces(board));
        Check.same("1: side", 0, board.side());
        Check.same("1: played", 0, board.played());
        Check.same("1: state", '1', board.state());
        for (int law = 0; law < 11; law++) {
            Check.same("1: law " + law, law == 6 ? 1 : 0, board.law(law, 0));
        }
        Check.same("1: barred", 0, board.unbar());
        Check.same("1: claims", 1, board.claim('d'));
        Check.fails("1: table", IllegalStateException.class, board, board::longest);
    }

    private static void board() {
        Huffboard board = new Huffboard();
        Check.same("2: 4", 8, board.board(4));
        Check.same("2: 5", 12, board.board(5));
        Check.same("2: 6", 18, board.board(6));
        Check.same("2: 7", 24, board.board(7));
        Check.same("2: 8", 32, board.board(8));
        for (int size : new int[] {3, 9, 0, -4, Integer.MAX_VALUE, Integer.MIN_VALUE}) {
            Check.fails("2: " + size, ARGUMENT, board, () -> board.board(size));
        }
    }

    private static void boardTakesAndLeaves() {
        Huffboard board = Boards.of(4, "0=1", "m6 M3");
        board.turn(1);
        board.solve(1);
        board.claim('w');
        board.bar(6, 4);
        board.play(0);
        Check.same("2: same size anew", 8, board.board(4));
        Check.same("2: empty", "--------", Boards.pieces(board));
        Check.same("2: no game", 0, board.played());
        Check.same("2: side", 0, board.side());
        Check.fails("2: no table", IllegalStateException.class, board, board::longest);
        Check.same("2: no book", 1, board.claim('w'));
        Check.same("2: laws stay", 1, board.law(0, 1));
        Check.same("2: bars stay", 1, board.unbar());
        Check.same("2: moved side forgotten", 0, board.turn(1));
    }

    private static void law() {
        Huffboard board = Boards.of(6, "m13");
        int[] most = {1, 1, 2, 1, 1, 2, 1, 1, 1, 99, 5};
        for (int i = 0; i < most.length; i++) {
            int law = i;
            int before = board.law(law, 0);
            Check.same("3: first " + law, law == 6 ? 1 : 0, before);
            Check.same("3: to the most " + law, 0, board.law(law, most[law]));
            Check.same("3: most of " + law, most[law], board.law(law, 1));
            Check.same("3: one of " + law, 1, board.law(law, before));
            Check.fails("3: above " + law, ARGUMENT, board, () -> board.law(law, most[law] + 1));
            Check.fails("3: below " + law, ARGUMENT, board, () -> board.law(law, -1));
            Check.same("3: still " + law, before, board.law(law, before));
        }
        Check.fails("3: no law 11", INDEX, board, () -> board.law(11, 100));
        Check.fails("3: no law -1", INDEX, board, () -> board.law(-1, 0));
        Check.fails("3: no law at all", INDEX, board, () -> board.law(Integer.MIN_VALUE, 0));
        board.play(0);
        Check.fails("3: played", UNSUPPORTED, board, () -> board.law(0, 1));
        Check.fails("3: played and out of range", ARGUMENT, board, () -> board.law(0, 2));
        Check.fails("3: played and no law", INDEX, board, () -> board.law(11, 0));
        board.back();
        Check.same("3: taken back", 0, board.law(0, 1));
        Check.same("3: set", 1, board.law(0, 1));
    }

    private static void put() {
        Huffboard board = new Huffboard();
        Check.same("4: on an empty field", '-', board.put(13, 'm'));
        Check.same("4: in place of m", 'm', board.put(13, 'k'));
        Check.same("4: in place of k", 'k', board.put(13, 'M'));
        Check.same("4: in place of M", 'M', board.put(13, 'K'));
        Check.same("4: in place of K", 'K', board.put(13, '-'));
        Check.same("4: off", '-', board.at(13));
        board.put(3, 'm');
        board.put(0, 'M');
        board.put(15, 'm');
        board.put(14, 'M');
        board.put(1, 'k');
        board.put(16, 'K');
        Check.same("4: all", "Mk-m----------MmK-", Boards.pieces(board));
        for (int field : new int[] {0, 1, 2}) {
            Check.fails("4: m on " + field, ARGUMENT, board, () -> board.put(field, 'm'));
        }
        for (int field : new int[] {15, 16, 17}) {
            Check.fails("4: M on " + field, ARGUMENT, board, () -> board.put(field, 'M'));
        }
        for (char piece : new char[] {'x', ' ', 0, (char) 255, 'n', 'L'}) {
            Check.fails("4: " + piece, ARGUMENT, board, () -> board.put(5, piece));
        }
        Check.fails("4: field 18", INDEX, board, () -> board.put(18, 'x'));
        Check.fails("4: field -1", INDEX, board, () -> board.put(-1, 'k'));
        board.play(0);
        Check.fails("4: played", UNSUPPORTED, board, () -> board.put(5, '-'));
        Check.fails("4: played, no piece", ARGUMENT, board, () -> board.put(5, 'x'));
        Check.fails("4: played, no field", INDEX, board, () -> board.put(18, '-'));
        board.back();
        Check.same("4: taken back", '-', board.put(5, 'k'));
    }

    private static void fill() {
        Huffboard board = new Huffboard();
        board.put(8, 'k');
        board.turn(1);
        Check.same("5: 6 rows, 2", 12, board.fill(2));
        Check.same("5: how they stand", "MMMMMM------mmmmmm", Boards.pieces(board));
        Check.same("5: who moves stays", 1, board.side());
        Check.same("5: 6 rows, 1", 6, board.fill(1));
        Check.same("5: how they stand", "MMM------------mmm", Boards.pieces(board));
        Check.fails("5: 3 of 6", ARGUMENT, board, () -> board.fill(3));
        Check.fails("5: -1", ARGUMENT, board, () -> board.fill(-1));
        Check.same("5: none", 0, board.fill(0));
        Check.same("5: none stands", "------------------", Boards.pieces(board));
        for (int size : Boards.sizes()) {
            board.board(size);
            int most = size / 2 - 1;
            Check.same("5: one row of " + size, size % 2 == 0 ? size : size - 1, board.fill(1));
            Check.fails("5: too many of " + size, ARGUMENT, board, () -> board.fill(most + 1));
            board.fill(most);
            Check.same("5: men of " + size, board.pieces(0, false), board.pieces(1, false));
        }
        Check.same("5: 8 rows, 3", 24, board.fill(3));
        board.board(5);
        Check.same("5: 5 rows, 1", 4, board.fill(1));
        Check.same("5: how 5 stand", "MM--------mm", Boards.pieces(board));
        board.board(7);
        Check.same("5: 7 rows, 2", 14, board.fill(2));
        Check.same("5: how 7 stand", "MMMMMMM----------mmmmmmm", Boards.pieces(board));
        board.play(0);
        Check.fails("5: played", UNSUPPORTED, board, () -> board.fill(1));
        Check.fails("5: played, too many", ARGUMENT, board, () -> board.fill(3));
    }

    private static void turn() {
        Huffboard board = Boards.of(6, "m13 M4");
        Check.same("6: before", 0, board.turn(1));
        Check.same("6: side", 1, board.side());
        Check.same("6: again", 1, board.turn(1));
        Check.same("6: back", 1, board.turn(0));
        Check.same("6: side again", 0, board.side());
        Check.fails("6: 2", ARGUMENT, board, () -> board.turn(2));
        Check.fails("6: -1", ARGUMENT, board, () -> board.turn(-1));
        board.turn(1);
        board.play(0);
        Check.same("6: who moves then", 0, board.side());
        Check.fails("6: played", UNSUPPORTED, board, () -> board.turn(1));
        Check.fails("6: played, no side", ARGUMENT, board, () -> board.turn(2));
        board.back();
        Check.same("6: taken back", 1, board.turn(0));
    }

    private static void fields() {
        Huffboard board = new Huffboard();
        int[] due = {8, 12, 18, 24, 32};
        for (int i = 0; i < due.length; i++) {
            board.board(4 + i);
            Check.same("7: of " + (4 + i), due[i], board.fields());
        }
    }

    private static void at() {
        Huffboard board = Boards.of(6, "m13 k14 M4 K17");
        Check.same("8: m", 'm', board.at(13));
        Check.same("8: k", 'k', board.at(14));
        Check.same("8: M", 'M', board.at(4));
        Check.same("8: K", 'K', board.at(17));
        Check.same("8: none", '-', board.at(0));
        Check.fails("8: 18", INDEX, board, () -> board.at(18));
        Check.fails("8: -1", INDEX, board, () -> board.at(-1));
        Check.fails("8: the least", INDEX, board, () -> board.at(Integer.MIN_VALUE));
    }

    private static void pieces() {
        Huffboard board = Boards.of(6, "m13 m12 m15 k14 k17 M4 K16 K0 K1 K2");
        Check.same("9: men of 0", 3, board.pieces(0, false));
        Check.same("9: kings of 0", 2, board.pieces(0, true));
        Check.same("9: men of 1", 1, board.pieces(1, false));
        Check.same("9: kings of 1", 4, board.pieces(1, true));
        Check.fails("9: side 2", ARGUMENT, board, () -> board.pieces(2, false));
        Check.fails("9: side -1", ARGUMENT, board, () -> board.pieces(-1, true));
    }

    private static void side() {
        Huffboard board = Boards.of(6, "m13 M4");
        Check.same("10: first", 0, board.side());
        board.play(0);
        Check.same("10: behind a move", 1, board.side());
        board.play(0);
        Check.same("10: behind two", 0, board.side());
        board.back();
        Check.same("10: taken back", 1, board.side());
    }

    private static void beside() {
        Huffboard board = new Huffboard();
        String[] due = {"-1 -1 3 4", "-1 -1 4 5", "-1 -1 5 -1", "-1 0 -1 6", "0 1 6 7", "1 2 7 8"};
        for (int field = 0; field < due.length; field++) {
            Check.same("11: round " + field, due[field], round(board, field));
        }
        Check.same("11: round 17", "13 14 -1 -1", round(board, 17));
        Check.same("11: round 15", "-1 12 -1 -1", round(board, 15));
        board.board(5);
        Check.same("11: 5 rows, round 0", "-1 -1 2 3", round(board, 0));
        Check.same("11: 5 rows, round 3", "0 1 5 6", round(board, 3));
        Check.same("11: 5 rows, round 4", "1 -1 6 -1", round(board, 4));
        Check.same("11: 5 rows, round 11", "8 9 -1 -1", round(board, 11));
        board.board(8);
        Check.same("11: 8 rows, round 0", "-1 -1 4 5", round(board, 0));
        Check.same("11: 8 rows, round 28", "-1 24 -1 -1", round(board, 28));
        Check.same("11: 8 rows, round 31", "26 27 -1 -1", round(board, 31));
        board.board(7);
        Check.same("11: 7 rows, round 12", "8 9 15 16", round(board, 12));
        Check.fails("11: field 24", INDEX, board, () -> board.beside(24, 4));
        Check.fails("11: field -1", INDEX, board, () -> board.beside(-1, 0));
        Check.fails("11: way 4", ARGUMENT, board, () -> board.beside(23, 4));
        Check.fails("11: way -1", ARGUMENT, board, () -> board.beside(0, -1));
    }

    private static String round(Huffboard board, int field) {
        return board.beside(field, 0) + " " + board.beside(field, 1) + " " + board.beside(field, 2) + " "
            + board.beside(field, 3);
    }

    private static void crownShare() {
        Huffboard board = Boards.of(6, "m13 K4 M5");
        Check.same("46: a third", 1f / 3f, board.crownShare());
        board.put(13, 'k');
        Check.same("46: two thirds", 2f / 3f, board.crownShare());
        board.put(5, '-');
        Check.same("46: all", 1f, board.crownShare());
        board.put(13, '-');
        board.put(4, 'M');
        Check.same("46: none of them", 0f, board.crownShare());
        board.put(4, '-');
        Check.fails("46: no piece", ArithmeticException.class, board, board::crownShare);
    }

    private static void checksum() {
        Huffboard board = Boards.of(4, "m6 M4 K1 k0");
        int[] numbers = {2, 4, 0, 0, 3, 0, 1, 0};
        for (int side = 0; side < 2; side++) {
            long due = side;
            for (int number : numbers) {
                due = due * 31 + number;
            }
            board.turn(side);
            Check.same("48: side " + side, due, board.checksum());
        }
        Check.same("48: an empty board", 0L, new Huffboard().checksum());
        board.board(8);
        board.fill(3);
        board.turn(1);
        long due = 1;
        for (int field = 0; field < 32; field++) {
            due = due * 31 + (field < 12 ? 3 : field >= 20 ? 1 : 0);
        }
        Check.same("48: going round", due, board.checksum());
    }
}
