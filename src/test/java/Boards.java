/** Boards for the tests, and all that can be seen of one as a text. */
public final class Boards {
    private static final int[] SIZES = {4, 5, 6, 7, 8};

    private Boards() {
    }

    static int[] sizes() {
        return SIZES.clone();
    }

    /** A board with pieces told as in "m13 K4". */
    static Huffboard of(int size, String pieces) {
        Huffboard board = new Huffboard();
        board.board(size);
        lay(board, pieces);
        return board;
    }

    static void lay(Huffboard board, String pieces) {
        for (String told : pieces.split(" ")) {
            if (!told.isEmpty()) {
                board.put(Integer.parseInt(told.substring(1)), told.charAt(0));
            }
        }
    }

    /** A board with laws, told as in "1=1 6=0", and pieces. */
    static Huffboard of(int size, String laws, String pieces) {
        Huffboard board = of(size, pieces);
        for (String told : laws.split(" ")) {
            if (!told.isEmpty()) {
                String[] parts = told.split("=");
                board.law(Integer.parseInt(parts[0]), Integer.parseInt(parts[1]));
            }
        }
        return board;
    }

    /** The moves as in "10>2x7,12+", + for a crowning. */
    static String moves(Huffboard board) {
        StringBuilder text = new StringBuilder();
        for (int i = 0; i < board.moves(); i++) {
            text.append(i == 0 ? "" : " ").append(board.from(i)).append('>').append(board.to(i));
            char sign = 'x';
            for (int field = 0; field < board.fields(); field++) {
                if (board.captures(i, field)) {
                    text.append(sign).append(field);
                    sign = ',';
                }
            }
            text.append(board.crowns(i) ? "+" : "");
        }
        return text.toString();
    }

    static String pieces(Huffboard board) {
        StringBuilder text = new StringBuilder();
        for (int field = 0; field < board.fields(); field++) {
            text.append(board.at(field));
        }
        return text.toString();
    }

    private static Object answer(Check.Call call) {
        try {
            return call.make();
        } catch (RuntimeException e) {
            return e.getClass().getSimpleName();
        }
    }

    static String print(Huffboard board) {
        StringBuilder text = new StringBuilder(pieces(board));
        text.append(" side ").append(board.side()).append(" state ").append(board.state());
        text.append(" moves ").append(moves(board)).append(" played ").append(board.played());
        text.append(" calm ").append(board.calm()).append(" seen ").append(board.seen());
        text.append(" huffs ").append(board.huffs()).append(" why ").append(answer(board::why));
        text.append(" refuted ").append(board.refuted()).append(" sources ").append(board.sources());
        text.append(" table ").append(answer(board::longest)).append(' ').append(answer(board::distance));
        return text.append(' ').append(answer(() -> board.count('w', 3))).toString();
    }
}
