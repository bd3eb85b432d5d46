/** Promises 12 to 17 and 19, and the laws 0 to 6: which moves there are. */
public final class MovesTest {
    private static final Class<IndexOutOfBoundsException> INDEX = IndexOutOfBoundsException.class;

    public static void main(String[] args) {
        steps();
        flyingSteps();
        captures();
        flyingCaptures();
        chains();
        backwards();
        mostPieces();
        kingsFirst();
        takenOff();
        crowning();
        freeChoice();
        alike();
        order();
        asked();
        noSuchMove();
        told();
        Check.end();
    }

    private static void are(String what, String due, Huffboard board) {
        Check.same(what, due, Boards.moves(board));
        int number = due.isEmpty() ? 0 : due.split(" ").length;
        Check.same(what + ": how many", number, board.moves());
    }

    private static void steps() {
        are("12: a man", "13>10 13>11", Boards.of(6, "m13"));
        are("12: men in each other's way", "10>6 10>7 13>11", Boards.of(6, "m13 m10"));
        are("12: a man at the edge", "9>6", Boards.of(6, "m9"));
        are("12: a man to the last row", "3>0+ 5>1+ 5>2+", Boards.of(6, "m3 m5"));
        are("12: a king", "10>6 10>7 10>12 10>13", Boards.of(6, "k10"));
        are("12: a king on the last row", "1>4 1>5", Boards.of(6, "k1"));
        Huffboard board = Boards.of(6, "M4 M12 K9");
        are("12: of the side 0", "", board);
        board.turn(1);
        are("12: of the side 1", "4>6 4>7 9>6 12>15+ 12>16+", board);
        are("12: on 5 rows", "3>0+ 3>1+ 7>5 9>6", Boards.of(5, "m3 m7 m9"));
        are("12: none", "", new Huffboard());
    }

    private static void flyingSteps() {
        are("12: a flying king", "10>2 10>3 10>5 10>6 10>7 10>12 10>13 10>15 10>17", Boards.of(6, "1=1", "k10"));
        are("12: a flying king and its own", "5>1+ 5>2+ 10>3 10>6 10>7 10>12 10>13 10>17 15>12",
            Boards.of(6, "1=1", "k10 m5 m15"));
        are("12: men do not fly", "13>10 13>11", Boards.of(6, "1=1", "m13"));
    }

    private static void captures() {
        are("12: one must", "13>6x10", Boards.of(6, "m13 M10"));
        are("12: nothing behind", "13>11", Boards.of(6, "m13 M10 M6"));
        are("12: an own one behind", "6>3 6>4 13>11", Boards.of(6, "m13 M10 m6"));
        are("12: at the edge", "12>10", Boards.of(6, "m12 M9"));
        are("12: own ones stand", "10>6 10>7 13>11", Boards.of(6, "m13 m10"));
        are("12: a king any way", "7>14x11", Boards.of(6, "k7 M11"));
        are("12: a king is no flyer", "7>4 7>5 7>10 7>11", Boards.of(6, "k7 M14"));
        Huffboard board = Boards.of(6, "M4 m7 m13");
        board.turn(1);
        are("12: by the side 1", "4>16x7,13+", board);
    }

    private static void flyingCaptures() {
        are("12: far ahead and behind", "15>2x10 15>5x10 15>7x10", Boards.of(6, "1=1", "k15 M10"));
        are("12: an own one ends it", "15>7x10", Boards.of(6, "1=1", "k15 M10 m5"));
        are("12: two in a row", "15>12", Boards.of(6, "1=1", "k15 M10 M7"));
        are("12: an own one ahead", "12>7x10", Boards.of(6, "1=1", "k15 m12 M10"));
        are("12: to fields with and without more", "15>0x4,10 15>2x10 15>5x10", Boards.of(6, "1=1", "k15 M10 M4"));
    }

    private static void chains() {
        are("12: a man's chain", "16>4x7,13", Boards.of(6, "m16 M13 M7"));
        are("12: none over the edge", "16>4x7,13", Boards.of(6, "m16 M13 M7 M8"));
        are("12: a fork", "15>3x6,12 15>5x7,12", Boards.of(6, "m15 M12 M6 M7"));
        are("12: round", "16>16x6,7,12,13", Boards.of(6, "k16 M6 M7 M12 M13"));
        are("12: forward alone", "16>4x6,12 16>4x7,13", Boards.of(6, "m16 M6 M7 M12 M13"));
    }

    private static void backwards() {
        are("12: law 0 is 0", "7>4 7>5", Boards.of(6, "m7 M11"));
        are("12: law 0 is 1", "7>14x11", Boards.of(6, "0=1", "m7 M11"));
        are("12: no steps back by it", "13>10 13>11", Boards.of(6, "0=1", "m13"));
        are("12: a man round", "16>16x6,7,12,13", Boards.of(6, "0=1", "m16 M6 M7 M12 M13"));
    }

    private static void mostPieces() {
        String pieces = "m19 K15 m28 M24 M17 m30 M26 K18";
        are("12: law 2 is 0", "19>10x15 28>14x17,24 30>14x18,26", Boards.of(8, pieces));
        are("12: law 2 is 1", "28>14x17,24 30>14x18,26", Boards.of(8, "2=1", pieces));
        are("12: law 2 is 2", "30>14x18,26", Boards.of(8, "2=2", pieces));
        are("12: a king counts 3, two men 4", "28>14x17,24", Boards.of(8, "2=2", "m19 K15 m28 M24 M17"));
        are("12: a king counts more than a man", "19>10x15", Boards.of(8, "2=2", "m19 K15 m28 M24"));
        are("12: both are one piece", "19>10x15 28>21x24", Boards.of(8, "2=1", "m19 K15 m28 M24"));
        are("12: law 2 with a flying king", "15>0x4,10", Boards.of(6, "1=1 2=1", "k15 M10 M4"));
        are("12: law 2 without captures", "13>10 13>11", Boards.of(6, "2=1", "m13"));
    }

    private static void kingsFirst() {
        String pieces = "k2 M5 m15 M12";
        are("12: law 3 is 0", "2>7x5 15>10x12", Boards.of(6, pieces));
        are("12: law 3 is 1", "2>7x5", Boards.of(6, "3=1", pieces));
        are("12: no captures by kings", "15>10x12", Boards.of(6, "3=1", "k2 m15 M12"));
        are("12: what law 2 leaves", "15>3x6,12", Boards.of(6, "2=1 3=1", pieces + " M6"));
        are("12: what law 2 does not ask", "2>7x5", Boards.of(6, "3=1", pieces + " M6"));
        are("12: kings as they set out", "6>8x4,5+ 15>10x12", Boards.of(6, "3=1 5=1", "m6 M4 M5 m15 M12"));
    }

    private static void takenOff() {
        String pieces = "k10 K7 K12";
        are("12: law 4 is 0", "10>2x7 10>5x7 10>15x12", Boards.of(6, "1=1", pieces));
        are("12: law 4 is 1", "10>2x7,12 10>5x7,12 10>15x7,12", Boards.of(6, "1=1 4=1", pieces));
    }

    private static void crowning() {
        String pieces = "m6 M4 M5";
        are("17: law 5 is 0", "6>1x4+", Boards.of(6, pieces));
        are("17: law 5 is 0, going on", "6>8x4,5", Boards.of(6, "0=1", pieces));
        are("17: law 5 is 1", "6>8x4,5+", Boards.of(6, "5=1", pieces));
        are("17: law 5 is 1, law 0 too", "6>8x4,5+", Boards.of(6, "0=1 5=1", pieces));
        are("17: law 5 is 2", "6>1x4+", Boards.of(6, "5=2", pieces));
        are("17: law 5 is 2, law 0 too", "6>1x4+", Boards.of(6, "0=1 5=2", pieces));
        are("17: law 5 is 1, flying on", "8>15x5,10+ 8>19x5,10+", Boards.of(8, "1=1 5=1", "m8 M5 M10"));
        are("17: law 5 is 0, no flying on", "8>1x5+", Boards.of(8, "0=1 1=1", "m8 M5 M10"));
        are("17: a king stays one", "6>8x4,5", Boards.of(6, "5=1", "k6 M4 M5"));
        Huffboard board = Boards.of(6, "0=1", pieces);
        board.play(0);
        Check.same("17: a man went on", 'm', board.at(8));
        board = Boards.of(6, "5=1", pieces);
        board.play(0);
        Check.same("17: a king went on", 'k', board.at(8));
        board = Boards.of(6, "M10 m13");
        board.turn(1);
        are("17: the side 1", "10>17x13+", board);
    }

    private static void freeChoice() {
        are("12: law 6 is 0", "13>6x10 13>11", Boards.of(6, "6=0", "m13 M10"));
        String pieces = "m8 m14 M11 m15 M12 M6";
        are("12: law 6 is 0, law 2 too", "8>5 14>7x11 15>3x6,12", Boards.of(6, "6=0", pieces));
        are("12: law 6 is 0, law 2 is 1", "8>5 15>3x6,12", Boards.of(6, "2=1 6=0", pieces));
        are("12: law 6 is 0, law 3 is 1", "2>7x5 17>13 17>14", Boards.of(6, "3=1 6=0", "k2 M5 m15 M12 m17"));
    }

    private static void alike() {
        Huffboard board = Boards.of(6, "k16 M6 M7 M12 M13");
        Check.same("12: two ways round are one move", 1, board.moves());
        Check.same("15: round", 4, board.captured(0));
        board.play(0);
        Check.same("12: where it ends", "----------------k-", Boards.pieces(board));
    }

    private static void order() {
        Huffboard board = Boards.of(6, "0=1 1=1 6=0", "m16 M6 M7 M12 M13 k0");
        long before = -1;
        for (int i = 0; i < board.moves(); i++) {
            long sum = 0;
            for (int field = 0; field < board.fields(); field++) {
                sum += board.captures(i, field) ? 1L << field : 0;
            }
            long place = ((long) board.from(i) * 32 + board.to(i) << 32) + sum;
            Check.yes("12: move " + i + " is behind the one before", place > before);
            before = place;
        }
        are("12: by the sum", "16>4x6,12 16>4x7,13", Boards.of(6, "m16 M6 M7 M12 M13"));
    }

    private static void asked() {
        Huffboard board = Boards.of(6, "m6 M4 m15 M12 M7");
        are("13: both", "6>1x4+ 15>5x7,12", board);
        Check.same("13: first", 6, board.from(0));
        Check.same("13: second", 15, board.from(1));
        Check.same("14: first", 1, board.to(0));
        Check.same("14: second", 5, board.to(1));
        Check.same("15: first", 1, board.captured(0));
        Check.same("15: second", 2, board.captured(1));
        Check.yes("16: 4 by the first", board.captures(0, 4));
        Check.no("16: 4 by the second", board.captures(1, 4));
        Check.yes("16: 7 by the second", board.captures(1, 7));
        Check.no("16: where it sets out", board.captures(1, 15));
        Check.no("16: an empty field", board.captures(1, 17));
        Check.yes("17: first", board.crowns(0));
        Check.no("17: second", board.crowns(1));
        Check.same("15: a step", 0, Boards.of(6, "m13").captured(0));
    }

    private static void noSuchMove() {
        Huffboard board = Boards.of(6, "m13");
        for (int move : new int[] {-1, 2, Integer.MAX_VALUE, Integer.MIN_VALUE}) {
            none(board, move);
        }
        Check.fails("16: no field 18", INDEX, board, () -> board.captures(0, 18));
        Check.fails("16: no field -1", INDEX, board, () -> board.captures(0, -1));
        board.play(0);
        none(board, 0);
        none(new Huffboard(), 0);
    }

    private static void none(Huffboard board, int move) {
        Check.fails("13: no move " + move, INDEX, board, () -> board.from(move));
        Check.fails("14: no move " + move, INDEX, board, () -> board.to(move));
        Check.fails("15: no move " + move, INDEX, board, () -> board.captured(move));
        Check.fails("16: no move " + move, INDEX, board, () -> board.captures(move, 0));
        Check.fails("17: no move " + move, INDEX, board, () -> board.crowns(move));
        Check.fails("18: no move " + move, INDEX, board, () -> board.play(move));
    }

    private static void told() {
        Huffboard board = Boards.of(6, "m16 M6 M7 M12 M13");
        Check.same("19: two", 2, board.told(16, 4));
        Check.same("19: none", 0, board.told(16, 9));
        Check.same("19: the other way", 0, board.told(4, 16));
        Check.same("19: one", 1, Boards.of(6, "m13").told(13, 10));
        Check.same("19: round", 1, Boards.of(6, "k16 M6 M7 M12 M13").told(16, 16));
        Check.same("19: itself", 0, Boards.of(6, "m13").told(13, 13));
        Check.fails("19: from 18", INDEX, board, () -> board.told(18, 0));
        Check.fails("19: from -1", INDEX, board, () -> board.told(-1, 0));
        Check.fails("19: to 18", INDEX, board, () -> board.told(0, 18));
        Check.fails("19: to -1", INDEX, board, () -> board.told(16, -1));
        Check.same("19: the game is over", 0, Boards.of(6, "10=1", "m13").told(13, 10));
    }
}
