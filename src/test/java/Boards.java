/** Boards for the tests, and all that can be seen of one as a text. */
public final class Boards {
    private static final int[] SIZES = {4, 5, 6, 7, 8};

    private Boards() {
    }

    static int[] sizes() {
        return SIZES.clone();
    }

    /** A board with pieces told as in "m13 K4". */
    static Huffboard of(int size, String pieces) {
        Huffboard board = new Huffboard();
        board.board(size);
        lay(board, pieces);
        return board;
    }

    static void lay(Huffboard board, String pieces) {
        for (String told : pieces.split(" ")) {
            if (!told.isEmpty()) {
                board.put(Integer.parseInt(told.substring(1)), told.charAt(0));
            }
        }
    }

    /** A board with laws, told as in "1=1 6=0", and pieces. */
    static Huffboard of(int size, String laws, String pieces) {
        Huffboard board = of(size, pieces);
        for (String told : laws.split(" ")) {
            if (!told.isEmpty()) {
                String[] parts = told.split("=");
                board.law(Integer.parseInt(parts[0]), Integer.parseInt(parts[1]));
            }
        }
        return board;
    }

    /** The moves as in "10>2x7,12+", + for a crowning. */
    static String moves(Huffboard board) {
        StringBuilder text = new StringBuilder();
        for (int i = 0; i < board.moves(); i++) {
            text.append(i == 0 ? "" : " ").append(board.from(i)).append('>').append(board.to(i));
            char sign = 'x';
            for (int field = 0; field < board.fields(); field++) {
                if (board.captures(i, field)) {
                    text.append(sign).append(field);
                    sign = ',';
                }
            }
            text.append(board.crowns(i) ? "+" : "");
        }
        return text.toString();
    }

    static String pieces(Huffboard board) {
        StringBuilder text = new StringBuilder();
        for (int field = 0; field < board.fields(); field++) {
            text.append(board.at(field));
        }
        return text.toString();
    }

    static Object answer(Check.Call call) {
        try {
            return call.make();
        } catch (RuntimeException e) {
            return e.getClass().getSimpleName();
        }
    }

    static String print(Huffboard board) {
        StringBuilder text = new StringBuilder(pieces(board));
        text.append(" side ").append(board.side()).append(" state ").append(board.state());
        text.append(" moves ").append(moves(board)).append(" played ").append(board.played());
        text.append(" calm ").append(board.calm()).append(" seen ").append(board.seen());
        text.append(" huffs ").append(board.huffs()).append(" why ").append(answer(board::why));
        text.append(" refuted ").append(board.refuted()).append(" sources ").append(board.sources());
        text.append(" table ").append(answer(board::longest)).append(' ').append(answer(board::distance));
        return text.append(' ').append(answer(() -> board.count('w', 3))).toString();
    }

    /** A board of 4 rows that is set, with laws, a table, barred moves, a book and a refused move. */
    static Huffboard set() {
        Huffboard board = of(4, "6=0 9=50", "m7 M4 k1");
        board.solve(3);
        board.claim('w');
        board.claim('l');
        board.bar(7, 5);
        board.bar(0, 1);
        answer(() -> board.move(0, 0));
        return board;
    }

    /** That board in a game, where the man that moved could have captured and can be huffed. */
    static Huffboard begun() {
        Huffboard board = set();
        board.move(7, 5);
        return board;
    }

    /** Two kings in far corners of 6 rows that went so many moves to and fro. */
    static Huffboard toAndFro(String laws, int moves) {
        return toAndFro(laws, "k15 K2", moves);
    }

    /** The same with more pieces, which do not move. */
    static Huffboard toAndFro(String laws, String pieces, int moves) {
        Huffboard board = of(6, laws, pieces);
        int[] from = {15, 2, 12, 5};
        int[] to = {12, 5, 15, 2};
        for (int i = 0; i < moves; i++) {
            board.move(from[i % 4], to[i % 4]);
        }
        return board;
    }

    /** All that later calls can tell, in few enough calls, which use the board up. */
    static String whole(Huffboard board) {
        StringBuilder text = new StringBuilder("why ").append(answer(board::why)).append(", ").append(now(board));
        text.append(", sound ").append(board.isSound()).append(", claims ").append(answer(() -> board.claim('w')));
        text.append(", barred ").append(board.unbar()).append(", back");
        for (int left = board.played(); left > 0; left--) {
            text.append(' ').append(answer(board::back)).append(' ').append(board.checksum());
            if (left < 9) {
                text.append(' ').append(board.state()).append(board.calm()).append(board.seen());
            }
        }
        text.append(", laws");
        for (int law = 0; law < 11; law++) {
            int asked = law;
            text.append(' ').append(answer(() -> board.law(asked, 0)));
        }
        return text.toString();
    }

    private static String now(Huffboard board) {
        StringBuilder text = new StringBuilder().append(board.fields()).append(" fields, ").append(board.checksum());
        text.append(", state ").append(board.state()).append(", side ").append(board.side());
        text.append(", moves ").append(board.moves()).append(", lines ").append(board.lines(2));
        text.append(", played ").append(board.played()).append(", calm ").append(board.calm());
        text.append(", seen ").append(board.seen()).append(", huffs ").append(board.huffs());
        text.append(", refuted ").append(board.refuted()).append(", sources ").append(board.sources());
        text.append(", keys ").append(board.keys(2)).append(", longest ").append(answer(board::longest));
        text.append(", value ").append(answer(board::value)).append(answer(board::distance));
        text.append(", best ").append(answer(board::best));
        for (int pieces = 1; pieces < 4; pieces++) {
            int asked = pieces;
            text.append(", won ").append(answer(() -> board.count('w', asked)));
        }
        return text.toString();
    }
}
