import java.math.BigInteger;
import java.util.TreeSet;

/** One test for each sentence of the terms that the tests of the boundary cases do not ask for word by word. */
public final class TermsTest extends Edges {
    private static final String PIECES = "mkMK";

    public static void main(String[] args) {
        Check.all(TermsTest.class);
    }

    // Boards

    /** Row and column of each field, as found by going from field to field, from the first one on. */
    private static int[][] places(Huffboard board) {
        int[][] places = new int[board.fields()][];
        places[0] = new int[] {0, 1};
        for (int round = 0; round < places.length; round++) {
            for (int field = 0; field < places.length; field++) {
                for (int way = 0; way < 4 && places[field] != null; way++) {
                    int next = board.beside(field, way);
                    if (next >= 0 && places[next] == null) {
                        places[next] = new int[] {
                            places[field][0] + (way < 2 ? -1 : 1), places[field][1] + (way % 2 == 0 ? -1 : 1)};
                    }
                }
            }
        }
        return places;
    }

    /** "A board has 4 to 8 rows and as many columns, 6 at first." */
    static void aBoardHasRowsAndAsManyColumns() {
        for (int size = 4; size <= 8; size++) {
            int rows = 0;
            int columns = 0;
            for (int[] place : places(Boards.of(size, ""))) {
                rows = Math.max(rows, place[0] + 1);
                columns = Math.max(columns, place[1] + 1);
            }
            Check.same("rows", size, rows);
            Check.same("columns", size, columns);
        }
        Check.same("the last one at first", "5 4", text(places(new Huffboard())[17]));
    }

    private static String text(int[] place) {
        return place[0] + " " + place[1];
    }

    /** "Its fields are those places whose row and column together are odd, numbered from 0, row by row." */
    static void theFieldsAreNumberedRowByRow() {
        for (int size = 4; size <= 8; size++) {
            int[][] places = places(Boards.of(size, ""));
            int number = 0;
            for (int row = 0; row < size; row++) {
                for (int column = 0; column < size; column++) {
                    if ((row + column) % 2 == 1) {
                        Check.same("field " + number + " of " + size, row + " " + column, text(places[number]));
                        number++;
                    }
                }
            }
            Check.same("all of " + size, number, places.length);
        }
    }

    /** "Two sides play: 0, whose men go towards the row 0, and 1, whose men go towards the last row." */
    static void menOfTheTwoSidesGoTowardsTheirLastRows() {
        for (int size = 4; size <= 8; size++) {
            int[][] places = places(Boards.of(size, ""));
            for (int field = 0; field < places.length; field++) {
                if (places[field][0] > 0) {
                    checkRows("m" + field, places, -1, Boards.of(size, "m" + field));
                }
                if (places[field][0] < size - 1) {
                    checkRows("M" + field, places, 1, turned(size, "", "M" + field));
                }
            }
        }
    }

    private static void checkRows(String what, int[][] places, int due, Huffboard board) {
        int moves = board.moves();
        Check.yes(what + " can move", moves > 0);
        for (int i = 0; i < moves; i++) {
            Check.same(what + ", rows", due, places[board.to(i)][0] - places[board.from(i)][0]);
        }
    }

    /** "The last row of a side is the one towards which its men go." */
    static void theLastRowIsWhereMenBecomeKings() {
        for (int size = 4; size <= 8; size++) {
            int[][] places = places(Boards.of(size, ""));
            for (int field = 0; field < places.length; field++) {
                boolean isFirst = places[field][0] == 0;
                boolean isLast = places[field][0] == size - 1;
                int asked = field;
                Huffboard board = Boards.of(size, "");
                Check.same("m on " + field, isFirst, Boards.answer(() -> board.put(asked, 'm')) instanceof String);
                board.put(field, '-');
                Check.same("M on " + field, isLast, Boards.answer(() -> board.put(asked, 'M')) instanceof String);
            }
            for (int field = size / 2; field < size; field++) {
                Huffboard board = Boards.of(size, places[field][0] == 1 ? "m" + field : "");
                Check.same("m from " + field, places[field][0] == 1, board.moves() > 0 && board.crowns(0));
            }
        }
    }

    /** "A field is empty, or has a man or a king of a side." */
    static void aFieldIsEmptyOrHasAPieceOfASide() {
        Huffboard board = new Huffboard();
        Check.same("empty", '-', board.at(10));
        int[] men = {1, 0, 0, 0};
        int[] kings = {0, 1, 0, 0};
        for (int i = 0; i < PIECES.length(); i++) {
            board.put(10, PIECES.charAt(i));
            Check.same("what is there", PIECES.charAt(i), board.at(10));
            Check.same("men of 0, " + i, men[i], board.pieces(0, false));
            Check.same("kings of 0, " + i, kings[i], board.pieces(0, true));
            Check.same("men of 1, " + i, men[(i + 2) % 4], board.pieces(1, false));
            Check.same("kings of 1, " + i, kings[(i + 2) % 4], board.pieces(1, true));
        }
    }

    /** "The ways are 0 up and left, 1 up and right, 2 down and left, 3 down and right, up being towards the row 0." */
    static void theWaysAreUpAndDown() {
        Huffboard six = new Huffboard();
        Check.same("up and left", 6, six.beside(10, 0));
        Check.same("up and right", 7, six.beside(10, 1));
        Check.same("down and left", 12, six.beside(10, 2));
        Check.same("down and right", 13, six.beside(10, 3));
        Huffboard seven = Boards.of(7, "");
        Check.same("7 rows, up and left", 7, seven.beside(11, 0));
        Check.same("7 rows, up and right", 8, seven.beside(11, 1));
        Check.same("7 rows, down and left", 14, seven.beside(11, 2));
        Check.same("7 rows, down and right", 15, seven.beside(11, 3));
    }

    // Moves

    /**
     * "A move without a capture: a man goes by one field forward, a king by one field any way, if it flies by any
     * number of empty fields one way."
     */
    static void aMoveWithoutACapture() {
        Check.same("a man", "13>10 13>11", Boards.moves(Boards.of(6, "m13")));
        Check.same("a man of the side 1", "4>6 4>7", Boards.moves(turned(6, "", "M4")));
        Check.same("a king", "13>10 13>11 13>16 13>17", Boards.moves(Boards.of(6, "k13")));
        Check.same("a king that flies", "10>2 10>3 10>5 10>6 10>7 10>12 10>13 10>15 10>17",
            Boards.moves(Boards.of(6, "1=1", "k10")));
        Check.same("one that flies up to others", "5>1+ 5>2+ 10>3 10>6 10>7 12>9 13>11",
            Boards.moves(Boards.of(6, "1=1", "k10 m5 m12 m13")));
        Huffboard board = Boards.of(6, "1=1", "k15 K2 m17");
        board.move(15, 5);
        Check.same("behind it", "--K--k-----------m", Boards.pieces(board));
    }

    /**
     * "A capture: over a piece of the other side beside it, forward or, by law 0, any way, a man goes to the empty
     * field behind that; a king likewise any way, if it flies over any number of empty fields ahead, to any of the
     * empty fields behind that follow each other, also to one from which it cannot go on though it could from
     * another one."
     */
    static void aCapture() {
        Check.same("a man forward", "10>3x6", Boards.moves(Boards.of(6, "m10 M6 M13")));
        Check.same("by law 0 any way", "10>3x6 10>17x13", Boards.moves(Boards.of(6, "0=1", "m10 M6 M13")));
        Check.same("a king any way", "10>3x6 10>17x13", Boards.moves(Boards.of(6, "k10 M6 M13")));
        Check.same("a king not from afar", "10>6 10>7 10>12 10>13", Boards.moves(Boards.of(6, "k10 M5")));
        Check.same("one that flies from afar", "10>2x5", Boards.moves(Boards.of(6, "1=1", "k10 M5")));
        Check.same("one that flies to all behind", "15>2x10 15>5x10 15>7x10",
            Boards.moves(Boards.of(6, "1=1", "k15 M10")));
        Check.same("where it can go on and where it cannot", "15>0x4,10 15>2x10 15>5x10",
            Boards.moves(Boards.of(6, "1=1", "k15 M10 M4")));
        Huffboard board = Boards.of(6, "1=1", "k15 M10 M4 K17");
        board.move(15, 0);
        Check.same("behind it", "k----------------K", Boards.pieces(board));
    }

    /**
     * "Moves are alike if they set out from the same field, end on the same one, and capture the same pieces; they
     * count once, one by which the piece is a king in the end if any of them does so."
     */
    static void movesThatAreAlikeCountOnce() {
        String round = "m6 M4 M5 M10 M11";
        Check.same("either way round, a king", "6>6x4,5,10,11+", Boards.moves(Boards.of(6, "0=1 5=1", round)));
        Check.same("either way round, a man", "6>6x4,5,10,11", Boards.moves(Boards.of(6, "0=1 5=0", round)));
        Huffboard king = Boards.of(6, "0=1 5=1", round);
        Check.same("how many are told", 1, king.told(6, 6));
        Check.same("it is played", '0', king.move(6, 6));
        Check.same("what it is then", 'k', king.at(6));
    }

    /**
     * "They are ordered by the field from which, then the one to which, then the sum of 2 to the power of each field
     * from which something was captured, lower ones ahead."
     */
    static void movesAreOrderedByTheSumOfWhatTheyCapture() {
        Check.same("more pieces ahead of fewer", "21>1x8,16 21>3x17 21>7x17 21>10x17 21>27x8,16,23 21>27x17,23",
            Boards.moves(Boards.of(8, "1=1", "k21 K16 K8 K17 K31 K23")));
        String moves = Boards.moves(Boards.of(8, "1=1", "k1 K6 K5 K16 K25 K14"));
        Check.same("the least field behind another one", "1>30x6,14,25 1>30x5,16,25",
            moves.substring(moves.indexOf("1>30")));
        Check.same("the field from which ahead of the one to which, that ahead of the sum",
            "10>5x7 10>17x13 11>4x7 11>16x13", Boards.moves(Boards.of(6, "0=1", "m10 m11 M13 M7 m6 m14")));
    }

    /** "If there are captures, and law 6 is 1, no other moves are allowed; captures by laws 2 and 3 always." */
    static void movesAreAllowedByTheLaws() {
        Check.same("law 6 is 1", "13>6x10", Boards.moves(Boards.of(6, "m13 M10 m17")));
        Check.same("law 6 is 0", "13>6x10 13>11 17>14", Boards.moves(Boards.of(6, "6=0", "m13 M10 m17")));
        Check.same("law 6 is 1, no captures", "13>10 13>11 17>14", Boards.moves(Boards.of(6, "m13 M6 m17")));
        Check.same("law 2 as law 6 is 0", "8>5 15>3x6,12",
            Boards.moves(Boards.of(6, "6=0 2=1", "m8 m14 M11 m15 M12 M6")));
        Check.same("law 3 as law 6 is 0", "6>3 17>10x13 17>14", Boards.moves(Boards.of(6, "6=0 3=1", "m6 M4 k17 M13")));
    }

    // Games

    /** "A game begins with a board that is set; the side 0 moves." */
    static void aGameBeginsWithTheBoardThatIsSet() {
        Huffboard board = Boards.of(6, "m13 M4");
        Check.same("side", 0, board.side());
        Check.same("played", 0, board.played());
        board.move(13, 10);
        board.back();
        board.put(17, 'k');
        Check.same("set once more", "----M--------m---k", Boards.pieces(board));
        board.move(17, 14);
        board.back();
        Check.same("that is what it begins with", "----M--------m---k", Boards.pieces(board));
    }

    /** "Pieces can be put and taken, and laws changed, only while no move is played, or all are taken back." */
    static void aBoardIsSetWhileNoMoveIsPlayed() {
        Huffboard board = Boards.of(6, "6=0", "m13 M10 m17 K2");
        for (int round = 0; round < 3; round++) {
            Check.same("put", 'm', board.put(17, 'm'));
            Check.same("taken", 'K', board.put(2, '-'));
            Check.same("put again", '-', board.put(2, 'K'));
            Check.same("law", 0, board.law(6, 0));
            board.move(13, 11);
            String before = Boards.print(board);
            Check.same("put in a game", "UnsupportedOperationException", Boards.answer(() -> board.put(17, 'm')));
            Check.same("taken in a game", "UnsupportedOperationException", Boards.answer(() -> board.put(2, '-')));
            Check.same("law in a game", "UnsupportedOperationException", Boards.answer(() -> board.law(6, 0)));
            board.huff(11);
            Check.same("behind huffing", "UnsupportedOperationException", Boards.answer(() -> board.put(17, 'm')));
            board.back();
            board.move(13, 11);
            Check.same("nothing was changed", before, Boards.print(board));
            board.back();
        }
    }

    /**
     * "It is over, by the first of these that holds: by law 8, if the side that moved last has a king, it wins, not
     * ahead of the first move; if who should move cannot, the other side wins, by law 7 this one; it is drawn by law
     * 9, then by law 10."
     */
    static void itIsOverByTheFirstThatHolds() {
        String shutIn = "m15 m16 m9 m10 M12 k2";
        String[] laws = {"8=1 7=1 9=1", "8=1 7=0 9=1", "8=0 7=1 9=1", "8=0 7=0 9=1"};
        String due = "0010";
        for (int i = 0; i < laws.length; i++) {
            Check.same("a king that shuts in, " + laws[i], due.charAt(i), Boards.of(6, laws[i], shutIn).move(2, 5));
        }
        Check.same("it can move, law 8", '0', Boards.of(6, "8=1 9=1", "k15 K2").play(0));
        Check.same("it can move, law 9", 'd', Boards.of(6, "8=0 9=1", "k15 K2").play(0));
        Check.same("it can move", 'p', Boards.of(6, "8=0 9=2", "k15 K2").play(0));
        Check.same("ahead of the first move, law 8 and then law 10", 'd', Boards.of(6, "8=1 10=1", "m13 K2").state());
        Check.same("ahead of the first move, law 8 alone", 'p', Boards.of(6, "8=1", "m13 K2").state());
        Check.same("who cannot move ahead of law 10", '1', Boards.of(6, "10=1", "K2").state());
        Check.same("by law 7 ahead of law 10", '0', Boards.of(6, "7=1 10=1", "K2").state());
        Check.same("behind four moves by law 10", 'd', Boards.toAndFro("9=5 10=2", 4).state());
        Check.same("behind four moves by law 9", 'd', Boards.toAndFro("9=4 10=3", 4).state());
        Check.same("behind four moves by none", 'p', Boards.toAndFro("9=5 10=3", 4).state());
    }

    /** "A move that is taken back makes all as it was, draws too; at most 120 are kept." */
    static void aMoveThatIsTakenBackMakesAllAsItWas() {
        String[] laws = {"9=4", "10=2", "9=5 10=3"};
        for (int i = 0; i < laws.length; i++) {
            Huffboard board = Boards.toAndFro(laws[i], 3);
            String before = Boards.print(board);
            Check.same("the fourth move, " + laws[i], "ddp".charAt(i), board.move(5, 2));
            board.back();
            Check.same("as it was, " + laws[i], before, Boards.print(board));
        }
        Huffboard capture = Boards.of(6, "5=1", "m6 M4 M5 K17");
        String before = Boards.print(capture);
        capture.play(0);
        capture.back();
        Check.same("a capture and a crowning", before, Boards.print(capture));
        Huffboard full = kept120();
        Check.same("one more than 120", "IllegalStateException", Boards.answer(() -> full.play(0)));
        Check.same("120 are kept", 120, full.played());
    }

    private static Huffboard behind(String laws, String pieces, int from, int to) {
        Huffboard board = Boards.of(6, laws, pieces);
        board.move(from, to);
        return board;
    }

    /**
     * "If law 6 is 0, and a move without a capture was played though captures were allowed, the other side can huff
     * once, ahead of its own move, while the game goes on".
     */
    static void theOtherSideCanHuffOnce() {
        String pieces = "m13 M10 m17 K2";
        Check.same("all of it holds", 1, behind("6=0", pieces, 13, 11).huffs());
        Check.same("law 6 is 1", 0, behind("6=1", "m13 M4 m17 K2", 13, 11).huffs());
        Check.same("a capture was played", 0, behind("6=0", pieces, 13, 6).huffs());
        Check.same("no captures were allowed", 0, behind("6=0", "m13 M4 m17 K2", 13, 11).huffs());
        Huffboard once = behind("6=0", "m12 m13 M10 M0", 12, 9);
        Check.same("two can be", 2, once.huffs());
        once.huff(13);
        Check.same("once", 0, once.huffs());
        Huffboard own = behind("6=0", pieces, 13, 11);
        own.move(2, 5);
        Check.same("behind its own move", 0, own.huffs());
        Check.same("the game is over", 0, behind("6=0 8=1", "m13 M10 k17 K2", 13, 11).huffs());
    }

    /**
     * "it takes off one of the pieces that could have captured by an allowed capture, where it is now; this belongs
     * to the move before, and is taken back with it; the position is then there in place of that behind the move;
     * calm() stays."
     */
    static void huffingTakesAPieceOff() {
        Huffboard board = Boards.of(6, "6=0", "k15 M12 k8 K0");
        board.move(8, 5);
        board.move(0, 3);
        board.move(5, 8);
        board.move(3, 0);
        Check.same("the position at first, twice", 2, board.seen());
        board.move(8, 5);
        Check.same("calm", 5, board.calm());
        Check.same("seen", 2, board.seen());
        Check.same("which could be", 1, board.huffs());
        Check.same("it goes on", 'p', board.huff(15));
        Check.same("what is left", "K----k------M-----", Boards.pieces(board));
        Check.same("calm stays", 5, board.calm());
        Check.same("another position", 1, board.seen());
        Check.same("played", 5, board.played());
        Check.same("it belongs to the move before", 4, board.back());
        Check.same("it is taken back", "K-------k---M--k--", Boards.pieces(board));
        board.move(8, 5);
        Check.same("where that moved is now", "UnsupportedOperationException", Boards.answer(() -> board.huff(5)));
    }

    // Endings

    /** How many ways there are to lay so many pieces, men not on their last rows, with either side to move. */
    private static int positions(int size, int most) {
        long[] ways = {1, 0, 0, 0};
        for (int field = 0; field < size * size / 2; field++) {
            boolean isOnEdge = field < size / 2 || field >= size * size / 2 - size / 2;
            for (int pieces = 3; pieces >= 1; pieces--) {
                ways[pieces] += ways[pieces - 1] * (isOnEdge ? 3 : 4);
            }
        }
        long sum = 0;
        for (int pieces = 1; pieces <= most; pieces++) {
            sum += 2 * ways[pieces];
        }
        return (int) sum;
    }

    /**
     * "A table is solved for the board's size and the laws 0 to 8, for all positions with at most so many pieces, one
     * at least, also of one side alone, men not on their last rows, either side to move, boards with at most 13
     * fields alone."
     */
    static void aTableIsSolvedForAllPositions() {
        for (int size = 4; size <= 8; size++) {
            for (int most = 1; most <= 3; most++) {
                Huffboard board = Boards.of(size, "");
                Object due = size > 5 ? "UnsupportedOperationException" : (Object) positions(size, most);
                int asked = most;
                Check.same(size + " rows, " + most, due, Boards.answer(() -> board.solve(asked)));
            }
        }
        Huffboard four = solved(4, "", "k6 M1");
        Huffboard five = solved(5, "", "k6 M1");
        Check.same("4 rows", "w 3", entry(four));
        Check.same("5 rows", "d -1", entry(five));
        Check.same("law 7 is 0", "w 1", entry(solved(4, "", "k6")));
        Check.same("law 7 is 1", "l 1", entry(solved(4, "7=1", "k6")));
    }

    private static Huffboard solved(int size, String laws, String pieces) {
        Huffboard board = Boards.of(size, laws, pieces);
        board.solve(2);
        return board;
    }

    private static String entry(Huffboard board) {
        return board.value() + " " + board.distance();
    }

    /** All positions with one piece and with two, as told by Boards.of, either side to move. */
    private static TreeSet<String> allOfTwo(int size) {
        TreeSet<String> all = new TreeSet<>();
        int fields = size * size / 2;
        for (int first = 0; first < fields; first++) {
            for (char piece : PIECES.toCharArray()) {
                all.add("" + piece + first);
                for (int second = first + 1; second < fields; second++) {
                    for (char other : PIECES.toCharArray()) {
                        all.add("" + piece + first + " " + other + second);
                    }
                }
            }
        }
        all.removeIf(told -> {
            for (String piece : told.split(" ")) {
                int field = Integer.parseInt(piece.substring(1));
                boolean isOnLast = piece.charAt(0) == 'm' && field < size / 2
                    || piece.charAt(0) == 'M' && field >= fields - size / 2;
                if (isOnLast) {
                    return true;
                }
            }
            return false;
        });
        return all;
    }

    /** What the table must tell, by what it tells behind each of the moves. */
    private static String byTheMoves(Huffboard board, String laws) {
        boolean isLost = laws.contains("8=1") && board.pieces(1 - board.side(), true) > 0;
        if (isLost || board.moves() == 0) {
            return !isLost && laws.contains("7=1") ? "w 0" : "l 0";
        }
        int least = Integer.MAX_VALUE;
        int greatest = -1;
        boolean allWon = true;
        for (int i = 0; i < board.moves(); i++) {
            board.play(i);
            if (board.value() == 'l') {
                least = Math.min(least, board.distance());
            }
            allWon &= board.value() == 'w';
            greatest = Math.max(greatest, board.distance());
            board.back();
        }
        if (least < Integer.MAX_VALUE) {
            return "w " + (least + 1);
        }
        return allWon ? "l " + (greatest + 1) : "d -1";
    }

    /**
     * "Each position is won, lost or drawn for who moves, the laws 9 and 10 and huffing aside, the side that does not
     * move counting as one that moved last, so in proofs and ahead of lines, too: lost in 0 moves if the game is over
     * and lost, won in 0 likewise; won in n moves if some move leads to one lost, the least n being 1 more than the
     * least of these; lost in n if all moves lead to won ones, 1 more than the greatest; otherwise drawn."
     */
    static void eachPositionIsWhatItsMovesTell() {
        for (String laws : new String[] {"", "0=1 1=1 6=0", "7=1 6=0", "8=1", "7=1 8=1", "9=50 10=3"}) {
            for (String pieces : allOfTwo(4)) {
                for (int side = 0; side < 2; side++) {
                    Huffboard board = solved(4, laws, pieces);
                    board.turn(side);
                    Check.same(pieces + ", side " + side + ", laws " + laws, byTheMoves(board, laws), entry(board));
                }
            }
        }
    }

    /** Whether behind a move the other side has lost, or loses whatever it does in what is left. */
    private static boolean isKey(Huffboard board, int move, int moves) {
        char won = (char) ('0' + board.side());
        char state = board.play(move);
        boolean isKey = state == won;
        if (state == 'p' && moves > 1) {
            isKey = true;
            for (int i = 0; i < board.moves(); i++) {
                board.play(i);
                isKey &= board.proves(moves - 2);
                board.back();
            }
        }
        board.back();
        return isKey;
    }

    /** Positions of which several are won in some moves, by the laws that stand with them. */
    private static final String[] WON = {"| m11 M3", "| k3 M0", "| k4 M1", "| k8 m10 M0", "| m3 k11 M6",
        "6=0 | k9 k8 M6 M7", "7=1 | m11 M1", "7=1 | k11 K6", "7=1 | m2 M7", "8=1 | m5 M6", "8=1 | m7 M1",
        "7=1 8=1 | m9 M4", "7=1 8=1 | m10 M1", "1=1 | k4 M1", "| k10 K1",
        "0=1 6=0 7=1 8=1 | m6 M5", "6=0 7=1 8=1 | m6 M0"};

    private static Huffboard won(String told) {
        String[] parts = told.split("\\| ");
        return Boards.of(5, parts[0].trim(), parts[1]);
    }

    /**
     * "A win in at most n moves can be proved without a table: the side that moves has won already, or has a move
     * behind which, whatever the other one does, it wins in at most n less 1 moves, all moves of both counting."
     */
    static void aWinIsProvedByGoingOn() {
        int proved = 0;
        for (String told : WON) {
            for (int moves = 0; moves <= 6; moves++) {
                Huffboard board = won(told);
                boolean due = board.state() == '0';
                for (int i = 0; i < board.moves() && moves > 0; i++) {
                    due |= isKey(board, i, moves);
                }
                Check.same(told + " in " + moves, due, board.proves(moves));
                proved += due ? 1 : 0;
            }
        }
        Check.same("how many are proved", 53, proved);
        Check.yes("won already", Boards.of(5, "7=1", "M3").proves(0));
    }

    /** "The keys are the moves that do so, draws by the laws 9 and 10 aside, numbered as moves are then." */
    static void theKeysAreTheMovesThatDoSo() {
        for (String told : WON) {
            for (int moves = 1; moves <= 6; moves++) {
                Huffboard board = won(told);
                int found = 0;
                for (int i = 0; i < board.moves(); i++) {
                    if (isKey(board, i, moves)) {
                        Check.same(told + " in " + moves + ", key " + found, i, board.keyAt(moves, found));
                        found++;
                    }
                }
                Check.same(told + " in " + moves + ", keys", found, board.keys(moves));
            }
        }
        Check.same("drawn", 1, Boards.of(5, "10=1", "m11 M3").keys(3));
        Check.same("draws behind", 3, Boards.of(5, "9=1", "k3 M0").keys(5));
    }

    /** In how many moves a win is proved, up to so many. */
    private static int length(Huffboard board, int most) {
        int moves = 0;
        while (moves < most && !board.proves(moves)) {
            moves++;
        }
        return moves;
    }

    /**
     * "The duals: with the first key played, then the first answer by which the win takes longest, and so on until it
     * is won, the number of own moves at which there was more than one key for what was left of the number of moves
     * told."
     */
    static void theDualsAreCountedAlongTheLine() {
        int sum = 0;
        for (String told : WON) {
            for (int moves = 1; moves <= 6; moves++) {
                Huffboard board = won(told);
                int left = moves;
                int duals = 0;
                while (left > 0 && board.keys(left) > 0) {
                    duals += board.keys(left) > 1 ? 1 : 0;
                    board.play(board.keyAt(left, 0));
                    left -= 2;
                    int longest = -1;
                    int found = -1;
                    for (int i = 0; i < board.moves(); i++) {
                        board.play(i);
                        int length = length(board, left);
                        board.back();
                        if (length > longest) {
                            longest = length;
                            found = i;
                        }
                    }
                    if (found < 0) {
                        break;
                    }
                    board.play(found);
                }
                int asked = moves;
                Object due = won(told).keys(moves) == 0 ? "NoSuchElementException" : (Object) duals;
                Check.same(told + " in " + moves, due, Boards.answer(() -> won(told).duals(asked)));
                sum += duals;
            }
        }
        Check.yes("there are some", sum > 20);
    }

    // Openings and books

    /**
     * "To draw an opening plays so many moves by lots: z, the seed at first, becomes z times 1103515245, plus 12345,
     * modulo 2147483648; z divided by 65536, cut, modulo how many moves are not barred is the place of the move among
     * these; it ends earlier if there is none, or the game is over."
     */
    static void anOpeningIsDrawnByLots() {
        int[][] barred = {{12, 9}, {13, 10}, {4, 7}, {3, 6}, {14, 11}};
        for (int seed = 0; seed < 100000; seed += 4761) {
            Huffboard board = new Huffboard();
            Huffboard other = new Huffboard();
            board.fill(2);
            other.fill(2);
            for (int[] bar : barred) {
                board.bar(bar[0], bar[1]);
            }
            BigInteger z = BigInteger.valueOf(seed);
            for (int played = 0; played < 6; played++) {
                int[] open = new int[40];
                int number = 0;
                for (int i = 0; i < other.moves(); i++) {
                    open[number] = i;
                    number += isBarred(barred, other.from(i), other.to(i)) ? 0 : 1;
                }
                z = z.multiply(BigInteger.valueOf(1103515245)).add(BigInteger.valueOf(12345));
                z = z.mod(BigInteger.valueOf(2147483648L));
                other.play(open[z.divide(BigInteger.valueOf(65536)).mod(BigInteger.valueOf(number)).intValue()]);
            }
            Check.same("how many, seed " + seed, 6, board.draw(seed, 6));
            Check.same("seed " + seed, other.checksum(), board.checksum());
        }
        Check.same("until the game is over", 1, Boards.of(6, "m13 M10").draw(0, 6));
        Huffboard none = Boards.of(6, "m9 M2");
        none.bar(2, 5);
        Check.same("until there is none", 1, none.draw(0, 6));
    }

    private static boolean isBarred(int[][] barred, int from, int to) {
        for (int[] bar : barred) {
            if (bar[0] == from && bar[1] == to) {
                return true;
            }
        }
        return false;
    }

    /** "A barred move is told by two fields; at most 10." */
    static void aBarredMoveIsToldByTwoFields() {
        Huffboard board = Boards.of(6, "m13 m12 M2");
        Check.same("the first", 1, board.bar(13, 10));
        Check.same("from the same field", 2, board.bar(13, 11));
        Check.same("to the same field", 3, board.bar(12, 10));
        Check.same("the only one that is left", 1, board.draw(77, 1));
        Check.same("is played", "--M------m---m----", Boards.pieces(board));
        for (int number = 4; number <= 10; number++) {
            Check.same("number " + number, number, board.bar(0, number));
        }
        Check.same("one more", "IllegalStateException", Boards.answer(() -> board.bar(0, 11)));
    }

    /**
     * "A book has at most 20 claims, each of the position as it is, with who moves, and what is claimed: won, lost or
     * drawn for who moves. A claim is refuted if the table has its position with another result."
     */
    static void aClaimIsRefutedByTheTable() {
        String[] pieces = {"m7 M1", "M1", "k7 K0", "k6"};
        String[] values = {"wd", "lw", "dd", "wl"};
        for (int i = 0; i < pieces.length; i++) {
            for (int side = 0; side < 2; side++) {
                for (char value : "wld".toCharArray()) {
                    Huffboard board = Boards.of(4, pieces[i]);
                    board.turn(side);
                    Check.same("the first claim", 1, board.claim(value));
                    board.fill(0);
                    board.turn(0);
                    board.solve(2);
                    boolean isRight = value == values[i].charAt(side);
                    Check.same(value + " for " + pieces[i] + ", side " + side, isRight ? 0 : 1, board.refuted());
                }
            }
        }
        Huffboard full = Boards.of(4, "k7 K0");
        for (int number = 1; number <= 20; number++) {
            Check.same("number " + number, number, full.claim(number % 2 == 0 ? 'd' : 'w'));
        }
        Check.same("one more", "IllegalStateException", Boards.answer(() -> full.claim('d')));
        full.solve(2);
        Check.same("half of them", 10, full.refuted());
    }

    /** Whether a move without a capture leads from there to that sum, if the board can be laid so. */
    private static boolean leads(Huffboard board, long sum) {
        boolean leads = false;
        for (int i = 0; i < board.moves() && !leads; i++) {
            if (board.captured(i) == 0) {
                board.play(i);
                leads = board.checksum() == sum;
                board.back();
            }
        }
        return leads;
    }

    /** From how many positions one comes here, by laying each that has one piece elsewhere or as a man. */
    private static int comeFrom(int size, String laws, String pieces, int side) {
        Huffboard here = Boards.of(size, laws, pieces);
        here.turn(side);
        int sum = 0;
        for (String told : pieces.split(" ")) {
            boolean isOwn = (Character.isLowerCase(told.charAt(0)) ? 0 : 1) == side;
            for (int origin = 0; origin < here.fields() && !isOwn; origin++) {
                boolean isMan = told.charAt(0) == 'm' || told.charAt(0) == 'M';
                String kinds = side == 1 ? isMan ? "m" : "mk" : isMan ? "M" : "MK";
                for (char kind : kinds.toCharArray()) {
                    sum += comes(size, laws, pieces.replace(told, "" + kind + origin), here, side) ? 1 : 0;
                }
            }
        }
        return sum;
    }

    private static boolean comes(int size, String laws, String pieces, Huffboard here, int side) {
        Huffboard before = Boards.of(size, laws, "");
        if (Boards.answer(() -> laid(before, pieces)) instanceof String) {
            return false;
        }
        before.turn(1 - side);
        boolean isOver = laws.contains("8=1") && before.pieces(side, true) > 0;
        int all = pieces.split(" ").length;
        int stand = before.pieces(0, true) + before.pieces(0, false) + before.pieces(1, true) + before.pieces(1, false);
        return !isOver && stand == all && leads(before, here.checksum());
    }

    private static Object laid(Huffboard board, String pieces) {
        Boards.lay(board, pieces);
        return true;
    }

    /**
     * "A position can have come, without a capture, from another one: a piece of the side that does not move now goes
     * back, as a man by one field, as a king that way or like a king, also as a man that became a king just now; that
     * move must be allowed there, and that position must not be over by law 8, the side that moves now counting as
     * one that moved last there."
     */
    static void aPositionCanHaveComeFromOthers() {
        String[] pieces = {"m10 M7", "k10 M7", "m13 K4", "k1 M5", "k0 k10 m12 K17 M3", "K16 M8 m13 k2", "k7 K10",
            "m9 m8 K1"};
        int all = 0;
        for (String laws : new String[] {"", "0=1", "1=1", "6=0", "1=1 6=0", "8=1", "2=1 3=1", "7=1"}) {
            for (String told : pieces) {
                for (int side = 0; side < 2; side++) {
                    Huffboard board = Boards.of(6, laws, told);
                    board.turn(side);
                    int due = comeFrom(6, laws, told, side);
                    Check.same(told + ", side " + side + ", laws " + laws, due, board.sources());
                    all += due;
                }
            }
        }
        Check.yes("there are many", all > 200);
    }

    // Exceptions

    /** "A method that throws an exception changes nothing." One call that is refused of each method that can be. */
    static void aMethodThatThrowsChangesNothing() {
        Check.refuses("board", ARGUMENT, Boards::begun, board -> board.board(9));
        Check.refuses("law", UNSUPPORTED, Boards::begun, board -> board.law(7, 1));
        Check.refuses("put", UNSUPPORTED, Boards::begun, board -> board.put(0, 'K'));
        Check.refuses("fill", UNSUPPORTED, Boards::begun, board -> board.fill(1));
        Check.refuses("turn", UNSUPPORTED, Boards::begun, board -> board.turn(0));
        Check.refuses("at", INDEX, Boards::begun, board -> board.at(8));
        Check.refuses("pieces", ARGUMENT, Boards::begun, board -> board.pieces(2, true));
        Check.refuses("beside", ARGUMENT, Boards::begun, board -> board.beside(0, 4));
        Check.refuses("from", INDEX, Boards::begun, board -> board.from(9));
        Check.refuses("to", INDEX, Boards::begun, board -> board.to(9));
        Check.refuses("captured", INDEX, Boards::begun, board -> board.captured(9));
        Check.refuses("captures", INDEX, Boards::begun, board -> board.captures(0, 8));
        Check.refuses("crowns", INDEX, Boards::begun, board -> board.crowns(9));
        Check.refuses("play", INDEX, Boards::begun, board -> board.play(9));
        Check.refuses("play, 120 kept", STATE, Edges::kept120, board -> board.play(0));
        Check.refuses("told", INDEX, Boards::begun, board -> board.told(0, 8));
        Check.refuses("move", INDEX, Boards::begun, board -> board.move(0, 8));
        Check.refusesMove("move, none", 'n', Boards::begun, 0, 7);
        Check.refuses("move, 120 kept", STATE, Edges::kept120, board -> board.move(15, 12));
        Check.refuses("why", NONE, Huffboard::new, Huffboard::why);
        Check.refuses("huff", UNSUPPORTED, Boards::begun, board -> board.huff(4));
        Check.refuses("back", NONE, Boards::set, Huffboard::back);
        Check.refuses("lines", ARGUMENT, Boards::begun, board -> board.lines(5));
        Check.refuses("solve", ARGUMENT, Boards::begun, board -> board.solve(4));
    }

    /** "A method that throws an exception changes nothing." The others. */
    static void aMethodThatThrowsChangesNothingEither() {
        Check.refuses("solve", UNSUPPORTED, Huffboard::new, board -> board.solve(1));
        Check.refuses("value", STATE, Huffboard::new, Huffboard::value);
        Check.refuses("distance", STATE, Huffboard::new, Huffboard::distance);
        Check.refuses("count", ARGUMENT, Boards::begun, board -> board.count('x', 1));
        Check.refuses("longest", STATE, Huffboard::new, Huffboard::longest);
        Check.refuses("best", STATE, Huffboard::new, Huffboard::best);
        Check.refuses("proves", ARGUMENT, Boards::begun, board -> board.proves(7));
        Check.refuses("keys", ARGUMENT, Boards::begun, board -> board.keys(7));
        Check.refuses("keyAt", NONE, Boards::begun, board -> board.keyAt(1, 9));
        Check.refuses("duals", NONE, Huffboard::new, board -> board.duals(6));
        Check.refuses("bar", UNSUPPORTED, Boards::begun, board -> board.bar(7, 5));
        Check.refuses("draw", ARGUMENT, Boards::begun, board -> board.draw(1, 7));
        Check.refuses("draw, 120 kept", STATE, Edges::kept120, board -> board.draw(1, 1));
        Check.refuses("claim", ARGUMENT, Boards::begun, board -> board.claim('x'));
        Check.refuses("crownShare", ARITHMETIC, Huffboard::new, Huffboard::crownShare);
        Check.refuses("meanMoves", ARITHMETIC, Huffboard::new, Huffboard::meanMoves);
    }

    /** "If several exceptions apply, the one that is listed first is thrown." */
    static void theExceptionThatIsListedFirstIsThrown() {
        Check.refuses("law", INDEX, Boards::begun, board -> board.law(11, 9));
        Check.refuses("put", INDEX, Boards::begun, board -> board.put(8, 'x'));
        Check.refuses("fill", ARGUMENT, Boards::begun, board -> board.fill(9));
        Check.refuses("turn", ARGUMENT, Boards::begun, board -> board.turn(2));
        Check.refuses("beside", INDEX, Boards::begun, board -> board.beside(8, 4));
        Check.refuses("solve", ARGUMENT, Huffboard::new, board -> board.solve(0));
        Check.refuses("value", STATE, Huffboard::new, Huffboard::value);
        Check.refuses("count", STATE, Huffboard::new, board -> board.count('x', 0));
        Check.refuses("keyAt", ARGUMENT, Huffboard::new, board -> board.keyAt(0, 0));
        Check.refuses("duals", ARGUMENT, Huffboard::new, board -> board.duals(0));
    }

    /**
     * "Why a move told by two fields was not played is told by a letter: 'n' there is no such move, 'd' several, 'c'
     * it is none since one must capture, or by laws 2 and 3, 'o' the game is over."
     */
    static void whyAMoveWasNotPlayedIsToldByALetter() {
        Check.refusesMove("no such move", 'n', () -> Boards.of(6, "m13 M10"), 13, 7);
        Check.refusesMove("several", 'd', () -> Boards.of(6, "m16 M6 M7 M12 M13"), 16, 4);
        Check.refusesMove("one must capture", 'c', () -> Boards.of(6, "m13 M10"), 13, 11);
        Check.refusesMove("law 2", 'c', () -> Boards.of(6, "2=1", "m14 M11 m15 M12 M6"), 14, 7);
        Check.refusesMove("law 3", 'c', () -> Boards.of(6, "3=1", "m6 M4 k17 M13"), 6, 1);
        Check.refusesMove("the game is over", 'o', Edges::wonByLaw8, 5, 7);
    }
}
