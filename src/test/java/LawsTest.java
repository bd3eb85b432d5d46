import java.util.function.Function;

/**
 * Each value of each law in positions where it decides: all else is the same, and the answers that are due
 * under the values 0, 1 and 2 are told side by side. Each law is asked for by all calls that it is seen in.
 */
public final class LawsTest {
    private static final int[] HIGHEST = {1, 1, 2, 1, 1, 2, 1, 1, 1};
    private static final int MOST_KEPT = 120;
    private static final int MOST_CALM = 99;
    private static final int MOST_SEEN = 5;

    public static void main(String[] args) {
        Check.all(LawsTest.class);
    }

    /** A position told as in "4 | 6=0 | m7 M4 | 1": rows, laws, pieces, who moves if that is the side 1. */
    private static Huffboard lay(String told, int law, int value) {
        String[] parts = told.split(" *\\| *", -1);
        Huffboard board = Boards.of(Integer.parseInt(parts[0]), parts[1], parts[2]);
        board.law(law, value);
        if (parts.length > 3) {
            board.turn(Integer.parseInt(parts[3]));
        }
        return board;
    }

    /** Under each value of the law the answer is the one that is told for it. */
    private static void decides(int law, String told, Function<Huffboard, Object> asked, Object... due) {
        Check.same("values told of law " + law, HIGHEST[law] + 1, due.length);
        for (int value = 0; value < due.length; value++) {
            Object got = asked.apply(lay(told, law, value));
            Check.same(told + ", law " + law + " being " + value + ",", due[value], got);
        }
    }

    /** In how many ways 1, 2, 3 and 4 moves can be played. */
    private static Object lines(Huffboard board) {
        return board.lines(1) + " " + board.lines(2) + " " + board.lines(3) + " " + board.lines(4);
    }

    /** The least number of moves in which a win is proved, -1 if in none up to 6. */
    private static Object proof(Huffboard board) {
        for (int moves = 0; moves <= 6; moves++) {
            if (board.proves(moves)) {
                return moves;
            }
        }
        return -1;
    }

    /** For 1 to 6 moves. */
    private static Object keys(Huffboard board) {
        StringBuilder text = new StringBuilder();
        for (int moves = 1; moves <= 6; moves++) {
            text.append(board.keys(moves));
        }
        return text.toString();
    }

    /** For 1 to 6 moves, - without a key. */
    private static Object duals(Huffboard board) {
        StringBuilder text = new StringBuilder();
        for (int moves = 1; moves <= 6; moves++) {
            text.append(board.keys(moves) == 0 ? "-" : String.valueOf(board.duals(moves)));
        }
        return text.toString();
    }

    /** What a table of three pieces tells of the position. */
    private static Object entry(Huffboard board) {
        board.solve(3);
        return board.value() + " " + board.distance();
    }

    private static Object best(Huffboard board) {
        board.solve(3);
        return board.best();
    }

    private static Object longest(Huffboard board) {
        board.solve(3);
        return board.longest();
    }

    /** How many positions with two pieces are won, lost and drawn, then how many with three. */
    private static Object counts(Huffboard board) {
        board.solve(3);
        StringBuilder text = new StringBuilder();
        for (int pieces = 2; pieces <= 3; pieces++) {
            for (char value : "wld".toCharArray()) {
                text.append(text.length() == 0 ? "" : " ").append(board.count(value, pieces));
            }
        }
        return text.toString();
    }

    /** The states behind each of the moves. */
    private static Object states(Huffboard board) {
        StringBuilder text = new StringBuilder();
        for (int i = 0; i < board.moves(); i++) {
            text.append(board.play(i));
            board.back();
        }
        return text.toString();
    }

    /** How many can be huffed behind each of the moves. */
    private static Object huffs(Huffboard board) {
        StringBuilder text = new StringBuilder();
        for (int i = 0; i < board.moves(); i++) {
            board.play(i);
            text.append(board.huffs());
            board.back();
        }
        return text.toString();
    }

    /** What a move told by two fields comes to: the state behind it, or why it is refused. */
    private static Function<Huffboard, Object> move(int from, int to) {
        return board -> {
            Object got = Boards.answer(() -> board.move(from, to));
            return got instanceof Character ? got : board.why();
        };
    }

    /** What stands where behind the first move. */
    private static Object pieces(Huffboard board) {
        board.play(0);
        return Boards.pieces(board);
    }

    // The laws 0 to 8

    /** "0 whether men capture backwards, too". */
    static void law0WhetherMenCaptureBackwards() {
        decides(0, "6 | | m7 M11", Boards::moves, "7>4 7>5", "7>14x11");
        decides(0, "6 | | M10 m7 | 1", Boards::moves, "10>12 10>13", "10>5x7");
        decides(0, "6 | | m15 M12 M13", Boards::moves, "15>10x12", "15>17x12,13");
        decides(0, "6 | | m7 M11", LawsTest::pieces, "----m------M------", "--------------m---");
        decides(0, "6 | | m9 M6 M4 M12", Huffboard::state, '1', 'p');
        decides(0, "6 | | m7 M11", LawsTest::states, "pp", "0");
        decides(0, "6 | | m7 M11", move(7, 4), 'p', 'c');
        decides(0, "6 | | m7 M11", move(7, 14), 'n', '0');
        decides(0, "6 | 6=0 | m7 M11 k17 K2", LawsTest::huffs, "0000", "11011");
        decides(0, "6 | | m7 M11", LawsTest::lines, "2 4 8 12", "1 0 0 0");
        decides(0, "6 | | m7 M11", Huffboard::meanMoves, 2.0, 0.0);
        decides(0, "5 | | M5 k1 | 1", Huffboard::sources, 3, 2);
    }

    /** "0 whether men capture backwards, too": in proofs and tables. */
    static void law0InProofsAndTables() {
        decides(0, "5 | | M4 m11 | 1", LawsTest::proof, -1, 5);
        decides(0, "5 | | M4 m11 | 1", LawsTest::keys, "000000", "000011");
        decides(0, "5 | | M4 m11 | 1", LawsTest::duals, "------", "----00");
        decides(0, "5 | | M6 m11", LawsTest::entry, "d -1", "l 4");
        decides(0, "5 | | m9 M5 | 1", LawsTest::best, 0, 1);
        decides(0, "4 | | ", LawsTest::counts, "278 218 188 1850 1360 1550", "298 228 158 1898 1402 1460");
        decides(0, "5 | | ", LawsTest::longest, 25, 21);
    }

    /** "1 whether kings fly". */
    static void law1WhetherKingsFly() {
        decides(1, "6 | | k15", Boards::moves, "15>12", "15>2 15>5 15>7 15>10 15>12");
        decides(1, "6 | | k15 K5", Boards::moves, "15>12", "15>2x5");
        decides(1, "6 | | k15 M12", Boards::moves, "15>10x12", "15>2x12 15>5x12 15>7x12 15>10x12");
        decides(1, "6 | | k15 M12 M6", Boards::moves, "15>3x6,12", "15>2x12 15>3x6,12 15>5x12 15>7x12");
        decides(1, "6 | | k15 M5", LawsTest::pieces, "-----M------k-----", "--k---------------");
        decides(1, "6 | | k15 M5", LawsTest::states, "p", "0");
        decides(1, "6 | | k15", move(15, 10), 'n', '0');
        decides(1, "6 | 6=0 | k15 M5 m17", LawsTest::huffs, "000", "011111");
        decides(1, "6 | | k15", LawsTest::lines, "1 0 0 0", "5 0 0 0");
        decides(1, "6 | | k15 K2", Huffboard::meanMoves, 1.0, 2.5);
        decides(1, "6 | | k7 | 1", Huffboard::sources, 4, 9);
        decides(1, "6 | | K7 m15 k16 | 1", Huffboard::sources, 2, 3);
    }

    /** "1 whether kings fly": in proofs and tables. */
    static void law1InProofsAndTables() {
        decides(1, "5 | | K3 m7 | 1", LawsTest::proof, -1, 3);
        decides(1, "5 | | K3 m7 | 1", LawsTest::keys, "000000", "001144");
        decides(1, "5 | | K0 m9 | 1", LawsTest::duals, "--0000", "--0011");
        decides(1, "5 | | M4 k11 | 1", LawsTest::entry, "d -1", "l 4");
        decides(1, "5 | | M3 k11", LawsTest::best, 0, 2);
        decides(1, "4 | | ", LawsTest::counts, "278 218 188 1850 1360 1550", "292 214 178 2252 1624 884");
        decides(1, "4 | | ", LawsTest::longest, 11, 25);
    }

    /** A man that can capture a king, another one two men, and a third one a king and a man. */
    private static final String CHOICES = "m19 K15 m28 M24 M17 m30 M26 K18";

    /** "2 which captures one may choose from: 0 all, 1 those of the most pieces, 2 those of the greatest value". */
    static void law2WhichCapturesOneMayChooseFrom() {
        decides(2, "8 | | " + CHOICES, Boards::moves, "19>10x15 28>14x17,24 30>14x18,26",
            "28>14x17,24 30>14x18,26", "30>14x18,26");
        decides(2, "8 | 6=0 | " + CHOICES, Boards::moves, "19>10x15 28>14x17,24 30>14x18,26 30>25",
            "28>14x17,24 30>14x18,26 30>25", "30>14x18,26 30>25");
        decides(2, "6 | | K12 k17 M7 k1 M13 M4", Boards::moves, "1>6x4 17>5x7,13 17>15x12,13",
            "17>5x7,13 17>15x12,13", "17>15x12,13");
        decides(2, "8 | | " + CHOICES, LawsTest::pieces, "----------m------MK-----M-M-m-m-",
            "--------------mK--Km------M---m-", "--------------mK-M-m----M---m---");
        decides(2, "8 | | " + CHOICES, LawsTest::states, "ppp", "pp", "p");
        decides(2, "8 | | " + CHOICES, move(19, 10), 'p', 'c', 'c');
        decides(2, "8 | | " + CHOICES, move(28, 14), 'p', 'p', 'c');
        decides(2, "8 | | " + CHOICES, move(30, 14), 'p', 'p', 'p');
        decides(2, "6 | 6=0 | K12 k17 M7 k1 M13 M4", LawsTest::huffs, "20020", "1010", "110");
        decides(2, "8 | | " + CHOICES, LawsTest::lines, "3 15 22 66", "2 7 10 33", "1 6 6 15");
        decides(2, "6 | | K14 K1 m4 k8", Huffboard::meanMoves, 8.0 / 3.0, 7.0 / 3.0, 2.0);
    }

    /** "0 all, 1 those of the most pieces, 2 those of the greatest value, a man being 2, a king 3": in proofs. */
    static void law2InProofsAndTables() {
        decides(2, "6 | 6=0 | k0 m16 K4 k1 m7 k6", LawsTest::proof, -1, 5, 5);
        decides(2, "6 | | k0 m16 K4 k1 m7 k6", LawsTest::keys, "000022", "000033", "000055");
        decides(2, "6 | 6=0 | k0 m16 K4 k1 m7 k6", LawsTest::duals, "------", "----00", "----33");
        decides(2, "6 | | K12 M5 m16 k2", LawsTest::proof, 5, 5, -1);
        decides(2, "5 | 0=1 | ", LawsTest::counts, "658 514 600 11068 9216 1308", "658 514 600 11068 9216 1308",
            "658 514 600 11068 9220 1304");
    }

    /** "3 whether of those that are left by law 2, if some are made by pieces that are kings as they set out". */
    static void law3WhetherKingsCaptureAlone() {
        decides(3, "6 | | m6 M4 k17 M13", Boards::moves, "6>1x4+ 17>10x13", "17>10x13");
        decides(3, "6 | 6=0 | m6 M4 k17 M13", Boards::moves, "6>1x4+ 6>3 17>10x13 17>14", "6>3 17>10x13 17>14");
        decides(3, "6 | 2=1 | k2 M5 m15 M12", Boards::moves, "2>7x5 15>10x12", "2>7x5");
        decides(3, "6 | 2=1 | k2 M5 m15 M12 M6", Boards::moves, "15>3x6,12", "15>3x6,12");
        decides(3, "6 | | m6 M4 k17 M13", LawsTest::pieces, "-k-----------M---k", "----M-m---k-------");
        decides(3, "6 | | m6 M4 k17 M13", LawsTest::states, "pp", "p");
        decides(3, "6 | | m6 M4 k17 M13", move(6, 1), 'p', 'c');
        decides(3, "6 | 6=0 | M8 K7 k11 | 1", LawsTest::huffs, "22200", "1110");
        decides(3, "6 | | m6 M4 k17 M13", LawsTest::lines, "2 2 8 11", "1 1 4 4");
        decides(3, "5 | | m11 K5 M6", Huffboard::meanMoves, 3.5, 3.0);
    }

    /** "3 whether of those that are left by law 2, ... these alone are left": in proofs. */
    static void law3InProofs() {
        decides(3, "6 | 6=0 | M5 k8 K13 m17", LawsTest::proof, 3, -1);
        decides(3, "5 | | m8 k3 M6", LawsTest::keys, "222222", "111111");
        decides(3, "5 | | m8 k3 M6", LawsTest::duals, "111111", "000000");
        decides(3, "5 | | K8 m7 M1 | 1", LawsTest::duals, "--2222", "--1111");
    }

    /** "4 when captured pieces are taken off: 0 as the move ends, 1 at once". */
    static void law4WhenCapturedPiecesAreTakenOff() {
        decides(4, "6 | 1=1 | k10 K7 K12", Boards::moves, "10>2x7 10>5x7 10>15x12",
            "10>2x7,12 10>5x7,12 10>15x7,12");
        decides(4, "8 | 1=1 2=1 | k28 M21 M9 M8 M16", Boards::moves, "28>12x8,9,21",
            "28>21x8,9,16,21 28>25x8,9,16,21 28>30x8,9,16,21");
        decides(4, "6 | 1=1 | k10 K7 K12", LawsTest::pieces, "--k---------K-----", "--k---------------");
        decides(4, "6 | 1=1 | k10 K7 K12", LawsTest::states, "ppp", "000");
        decides(4, "6 | 1=1 | k10 K7 K12", move(10, 2), 'p', '0');
        decides(4, "6 | 1=1 | M12 k7 M1 | 1", LawsTest::lines, "4 21 84 303", "4 21 80 287");
        decides(4, "6 | 1=1 | m12 k5 K7 | 1", Huffboard::meanMoves, 4.0, 0.0);
    }

    /** "4 when captured pieces are taken off: 0 as the move ends, 1 at once": in proofs. */
    static void law4InProofs() {
        decides(4, "6 | 1=1 | k10 K7 K12", LawsTest::proof, -1, 1);
        decides(4, "6 | 1=1 | m12 k5 K7 | 1", LawsTest::proof, 5, 1);
        decides(4, "6 | 1=1 | m12 k5 K7 | 1", LawsTest::keys, "000011", "222222");
        decides(4, "6 | 1=1 | m12 k5 K7 | 1", LawsTest::duals, "----00", "111111");
    }

    /**
     * "5 what a man does that comes to its last row by a capture: 0 it goes on as a man, and is a king if it
     * ends there, 1 it is a king at once and goes on as one, 2 the move ends there, and it is a king".
     */
    static void law5WhatAManDoesOnItsLastRow() {
        decides(5, "6 | 0=1 | m6 M4 M5", Boards::moves, "6>8x4,5", "6>8x4,5+", "6>1x4+");
        decides(5, "6 | 0=1 | M11 m13 m12 | 1", Boards::moves, "11>9x12,13", "11>9x12,13+", "11>16x13+");
        decides(5, "6 | | m6 M4 M5", Boards::moves, "6>1x4+", "6>8x4,5+", "6>1x4+");
        decides(5, "6 | 1=1 | m8 M4 K5", Boards::moves, "8>1x5+", "8>6x4,5+ 8>9x4,5+", "8>1x5+");
        decides(5, "6 | 0=1 2=1 | m6 M4 M5 m12 M9 M3", Boards::moves, "6>8x4,5", "6>8x4,5+", "6>1x4+");
        decides(5, "6 | 0=1 3=1 | m6 M4 M5", Boards::moves, "6>8x4,5", "6>8x4,5+", "6>1x4+");
        decides(5, "6 | 0=1 | m6 M4 M5", LawsTest::pieces, "--------m---------", "--------k---------",
            "-k---M------------");
        decides(5, "6 | 0=1 | m6 M4 M5", LawsTest::states, "0", "0", "p");
        decides(5, "6 | 0=1 8=1 | m6 M4 M5 M2", LawsTest::states, "p", "0", "0");
        decides(5, "6 | 0=1 | m6 M4 M5", move(6, 1), 'n', 'n', 'p');
        decides(5, "6 | 0=1 | M9 m5 k10 k12", LawsTest::lines, "7 8 37 61", "7 8 37 65", "7 8 40 65");
        decides(5, "6 | 0=1 | m6 M4 M5 M0", Huffboard::meanMoves, 2.0, 2.0, 4.0);
    }

    /** "0 it goes on as a man, ... 1 it is a king at once and goes on as one, 2 the move ends there": in proofs. */
    static void law5InProofs() {
        decides(5, "6 | 0=1 | m8 M4 K5", LawsTest::proof, 1, 1, -1);
        decides(5, "6 | 1=1 | m8 M4 K5", LawsTest::proof, -1, 1, -1);
        decides(5, "6 | 1=1 | m8 M4 K5", LawsTest::keys, "000000", "222222", "000000");
        decides(5, "6 | 1=1 | m8 M4 K5", LawsTest::duals, "------", "111111", "------");
    }

    /** "6 whether one must capture". */
    static void law6WhetherOneMustCapture() {
        decides(6, "6 | | m13 M10 m17", Boards::moves, "13>6x10 13>11 17>14", "13>6x10");
        decides(6, "6 | | m13 M10 m17", move(17, 14), 'p', 'c');
        decides(6, "6 | | m13 M10 m17", LawsTest::states, "0pp", "0");
        decides(6, "6 | | m13 M10 m17", LawsTest::huffs, "011", "0");
        decides(6, "6 | | m13 M10 m17", LawsTest::lines, "3 4 12 20", "1 0 0 0");
        decides(6, "6 | | m13 M10 m17", Huffboard::meanMoves, 4.0 / 3.0, 0.0);
        decides(6, "5 | | M5 k1 | 1", Huffboard::sources, 4, 3);
    }

    /** "6 whether one must capture": in proofs and tables. */
    static void law6InProofsAndTables() {
        decides(6, "5 | | k9 K4 M1 | 1", LawsTest::proof, -1, 3);
        decides(6, "5 | | m8 K6 | 1", LawsTest::keys, "112222", "111111");
        decides(6, "5 | | m8 K6 | 1", LawsTest::duals, "001111", "000000");
        decides(6, "5 | | M9 k10 K1 | 1", LawsTest::entry, "d -1", "w 7");
        decides(6, "5 | | k5 M8", LawsTest::best, 3, 0);
        decides(6, "4 | | ", LawsTest::counts, "278 218 188 1818 1318 1624", "278 218 188 1850 1360 1550");
        decides(6, "4 | | ", LawsTest::longest, 9, 11);
    }

    /** "7 whether who cannot move wins". */
    static void law7WhetherWhoCannotMoveWins() {
        decides(7, "6 | | M10", Huffboard::state, '1', '0');
        decides(7, "6 | | m9 M6 M4", Huffboard::state, '1', '0');
        decides(7, "6 | | m10 | 1", Huffboard::state, '0', '1');
        decides(7, "6 | | m13 M10", LawsTest::states, "0", "1");
        decides(7, "6 | | m13 M10", move(13, 6), '0', '1');
    }

    /** "7 whether who cannot move wins": in proofs and tables. */
    static void law7InProofsAndTables() {
        decides(7, "6 | | M10", LawsTest::proof, -1, 0);
        decides(7, "6 | | m13 M10", LawsTest::proof, 1, -1);
        decides(7, "5 | | k11 K6", LawsTest::keys, "000000", "011222");
        decides(7, "5 | | k11 K6", LawsTest::duals, "------", "-00111");
        decides(7, "5 | | k11 K6", LawsTest::entry, "d -1", "w 2");
        decides(7, "5 | | K7", LawsTest::entry, "l 0", "w 0");
        decides(7, "5 | | K8 k1 | 1", LawsTest::best, 0, 2);
        decides(7, "4 | | ", LawsTest::counts, "278 218 188 1850 1360 1550", "318 366 0 2596 2164 0");
        decides(7, "4 | | ", LawsTest::longest, 11, 12);
    }

    /** "8 whether who has a king behind the own move wins". */
    static void law8WhetherWhoHasAKingWins() {
        decides(8, "6 | | m3 M5", LawsTest::states, "p", "0");
        decides(8, "6 | | k15 K2", LawsTest::states, "p", "0");
        decides(8, "6 | | k15 m13 M2", LawsTest::states, "ppp", "000");
        decides(8, "6 | 7=1 | k13 M10", LawsTest::states, "1", "0");
        decides(8, "6 | | m13 K2", LawsTest::states, "pp", "pp");
        decides(8, "6 | | m3 M5", move(3, 0), 'p', '0');
        decides(8, "6 | 6=0 | k13 M10", LawsTest::huffs, "0111", "0000");
        decides(8, "6 | | m3 M5", LawsTest::lines, "1 2 4 6", "1 0 0 0");
        decides(8, "6 | | m13 K2", LawsTest::lines, "2 2 4 9", "0 0 0 0");
        decides(8, "6 | | m3 M5", Huffboard::meanMoves, 2.0, 0.0);
        decides(8, "5 | | K8 k1 | 1", Huffboard::sources, 4, 0);
    }

    /** "8 whether who has a king behind the own move wins": in proofs and tables. */
    static void law8InProofsAndTables() {
        decides(8, "6 | | m3 M5", LawsTest::proof, -1, 1);
        decides(8, "6 | | m3 m5 M14", LawsTest::keys, "000000", "333333");
        decides(8, "6 | | m3 m5 M14", LawsTest::duals, "------", "111111");
        decides(8, "5 | | K8 k1 | 1", LawsTest::entry, "d -1", "l 0");
        decides(8, "5 | | K0 m9 | 1", LawsTest::best, 1, 0);
        decides(8, "4 | | ", LawsTest::counts, "278 218 188 1850 1360 1550", "296 388 0 1584 3176 0");
        decides(8, "4 | | ", LawsTest::longest, 11, 5);
    }

    // The laws 9 and 10

    /** Plays two kings in far corners to and fro; the first number of moves behind which it is drawn, -1 for none. */
    private static int drawnBehind(String laws) {
        Huffboard board = Boards.of(6, laws, "k15 K2");
        int[] from = {15, 2, 12, 5};
        int[] to = {12, 5, 15, 2};
        for (int moves = 0; moves < MOST_KEPT && board.state() == 'p'; moves++) {
            board.move(from[moves % 4], to[moves % 4]);
        }
        return board.state() == 'd' ? board.played() : -1;
    }

    /** "9 after how many moves in a row by kings, of both sides together, none a capture, the game is drawn". */
    static void law9AfterHowManyMovesItIsDrawn() {
        for (int value = 1; value <= MOST_CALM; value++) {
            Check.same("law 9 being " + value, value, drawnBehind("9=" + value));
        }
    }

    /** "in a row by kings, of both sides together, none a capture": one by a man, or a capture, begins anew. */
    static void law9CountsMovesInARow() {
        for (int value = 1; value <= 4; value++) {
            Huffboard board = Boards.of(6, "9=" + value, "k15 K2 m17");
            board.move(17, 14);
            int[] from = {2, 15, 5, 12};
            int[] to = {5, 12, 2, 15};
            for (int moves = 0; moves < value; moves++) {
                Check.same("ahead of the last one, " + value, 'p', board.state());
                board.move(from[moves], to[moves]);
            }
            Check.same("behind kings' moves, " + value, 'd', board.state());
        }
        Huffboard captures = Boards.of(6, "6=0 9=3", "k13 M10 M0 K2");
        captures.move(13, 16);
        captures.move(2, 5);
        Check.same("two", 2, captures.calm());
        captures.move(16, 13);
        Check.same("three", 'd', captures.state());
        captures.back();
        captures.back();
        captures.back();
        captures.move(13, 6);
        Check.same("a capture", 0, captures.calm());
        Check.same("it goes on", 'p', captures.state());
    }

    /** "the game is drawn, 0 never". */
    static void law9Being0DrawsNever() {
        Check.same("120 moves by kings", -1, drawnBehind("9=0"));
        Check.same("law 10 draws without it", 4, drawnBehind("9=0 10=2"));
    }

    /** "10 how often a position, with who moves, must be there for a draw". */
    static void law10HowOftenAPositionMustBeThere() {
        for (int value = 1; value <= MOST_SEEN; value++) {
            Check.same("law 10 being " + value, 4 * (value - 1), drawnBehind("10=" + value));
        }
    }

    /** "10 how often a position, with who moves, must be there for a draw, 0 never". */
    static void law10Being0DrawsNever() {
        Check.same("31 times", -1, drawnBehind("10=0"));
        Check.same("law 9 draws without it", 7, drawnBehind("9=7 10=0"));
    }

    /** "it is drawn by law 9, then by law 10": the one that holds first, whichever it is. */
    static void laws9And10DrawTogether() {
        for (int calm = 1; calm <= 20; calm++) {
            for (int seen = 1; seen <= MOST_SEEN; seen++) {
                int due = Math.min(calm, 4 * (seen - 1));
                Check.same("laws " + calm + " and " + seen, due, drawnBehind("9=" + calm + " 10=" + seen));
            }
        }
    }
}
