/** One test for each sentence that names a boundary case of the moves, and of what is asked and told of them. */
public final class MovesEdgesTest extends Edges {
    public static void main(String[] args) {
        Check.all(MovesEdgesTest.class);
    }

    private static void are(String what, String due, Huffboard board) {
        Check.same(what, due, Boards.moves(board));
        Check.same(what + ", how many", due.isEmpty() ? 0 : due.split(" ").length, board.moves());
    }

    // Promise 12: how many there are

    /** "Returns how many moves there are, 0 if the game is over": the empty board. */
    static void promise12MovesOfTheEmptyBoardAreNone() {
        for (int rows = 4; rows <= 8; rows++) {
            are("side 0 of " + rows, "", Boards.of(rows, ""));
            are("side 1 of " + rows, "", turned(rows, "", ""));
        }
    }

    /** The full board has none: no field is empty. */
    static void promise12MovesOfTheFullBoardAreNone() {
        for (String laws : new String[] {"", "0=1", "1=1", "1=1 4=1 6=0"}) {
            Huffboard board = Boards.of(8, laws, "");
            for (int field = 0; field < 32; field++) {
                board.put(field, field % 2 == 0 ? 'k' : 'K');
            }
            are("laws " + laws, "", board);
            Check.same("laws " + laws + ", state", '1', board.state());
            board.put(13, '-');
            Check.yes("laws " + laws + ", one field is empty", board.moves() > 0);
        }
    }

    /** "0 if the game is over": by law 8, as nobody can move, by law 9, by law 10. */
    static void promise12MovesAreNoneAsTheGameIsOver() {
        Huffboard crowned = Boards.of(6, "8=1", "m3 M5");
        Check.same("law 8", '0', crowned.play(0));
        are("law 8", "", crowned);
        are("nobody can move", "", Boards.of(6, "m9 M6 M4"));
        Huffboard calm = Boards.of(6, "9=1", "k15 K2");
        Check.same("law 9", 'd', calm.play(0));
        are("law 9", "", calm);
        are("law 10", "", Boards.of(6, "10=1", "k15 K2"));
        crowned.back();
        are("taken back", "3>0+", crowned);
    }

    /** There are as many as there are: lists that are long are as the document has them, too. */
    static void promise12MovesCanBeMany() {
        String laws = "0=1 1=1 4=1 6=0";
        String pieces = "k4 k18 k20 k28 k3 M24 M5 M7 M14 M13 M23 M25 M6 M15";
        Huffboard board = Boards.of(8, laws, pieces);
        Oracle oracle = new Oracle();
        oracle.board(8);
        for (String law : laws.split(" ")) {
            oracle.law(law.charAt(0) - '0', law.charAt(2) - '0');
        }
        for (String piece : pieces.split(" ")) {
            oracle.put(Integer.parseInt(piece.substring(1)), piece.charAt(0));
        }
        Check.same("how many", 131, board.moves());
        Check.same("as the oracle says", oracle.moves(), board.moves());
        for (int i = 0; i < 131; i++) {
            Check.same("from " + i, oracle.from(i), board.from(i));
            Check.same("to " + i, oracle.to(i), board.to(i));
            Check.same("captured " + i, oracle.captured(i), board.captured(i));
        }
        Check.same("the moves behind them", oracle.meanMoves(), board.meanMoves());
        Check.same("lines of two", oracle.lines(2), board.lines(2));
    }

    /** They are those of the position as it is: nothing is left of more moves that there were before. */
    static void promise12MovesAreThoseThatThereAreNow() {
        Huffboard most = Boards.of(8, "m19 K15 m28 M24 M17");
        are("two", "19>10x15 28>14x17,24", most);
        most.put(28, '-');
        most.law(2, 1);
        are("one, law 2", "19>10x15", most);
        Huffboard kings = Boards.of(6, "m6 M4 k17 M13");
        are("two, one of them by a king", "6>1x4+ 17>10x13", kings);
        kings.put(13, '-');
        kings.law(3, 1);
        are("one by a man, law 3", "6>1x4+", kings);
    }

    // Promise 12: moves without a capture

    /** "a man goes by one field forward": not by two, not back, not over the edge, not to a field that is taken. */
    static void promise12MovesOfAManByOneForward() {
        are("in the middle", "13>10 13>11", Boards.of(6, "m13"));
        are("of the side 1", "4>6 4>7", turned(6, "", "M4"));
        are("at the edge", "9>6", Boards.of(6, "m9"));
        are("at the other edge", "8>5", Boards.of(6, "m8"));
        are("its own ahead", "10>6 10>7 13>11", Boards.of(6, "m13 m10"));
        are("law 1 is for kings", "13>10 13>11", Boards.of(6, "1=1", "m13"));
        are("law 0 is for captures", "13>10 13>11", Boards.of(6, "0=1", "m13"));
    }

    /** "a king by one field any way": four ways in the middle, one in a corner. */
    static void promise12MovesOfAKingByOneAnyWay() {
        are("in the middle", "10>6 10>7 10>12 10>13", Boards.of(6, "k10"));
        are("in a corner", "15>12", Boards.of(6, "k15"));
        are("in the other corner", "2>5", Boards.of(6, "k2"));
        are("at the last row", "1>4 1>5", Boards.of(6, "k1"));
        are("at the edge", "8>5 8>11", Boards.of(6, "k8"));
    }

    /** "if it flies by any number of empty fields one way": from one to all that there are, over no piece. */
    static void promise12MovesOfAFlyingKingByAnyNumber() {
        are("to the far corner", "15>2 15>5 15>7 15>10 15>12", Boards.of(6, "1=1", "k15"));
        are("by seven", "28>3 28>7 28>10 28>14 28>17 28>21 28>24", Boards.of(8, "1=1", "k28"));
        are("by seven the other way", "3>7 3>10 3>14 3>17 3>21 3>24 3>28", Boards.of(8, "1=1", "k3"));
        are("none, its own ahead", "12>9 12>10", Boards.of(6, "1=1", "k15 m12"));
        are("one, its own behind that", "10>6 10>7 15>12", Boards.of(6, "1=1", "k15 m10"));
        are("all but the corner", "15>5 15>7 15>10 15>12", Boards.of(6, "1=1", "k15 K2"));
    }

    // Promise 12: captures

    /** "over a piece of the other side beside it, ... a man goes to the empty field behind that". */
    static void promise12MovesCaptureToAnEmptyFieldBehind() {
        are("an empty field behind", "13>6x10", Boards.of(6, "m13 M10"));
        are("one of the other side behind", "13>11", Boards.of(6, "m13 M10 M6"));
        are("its own behind", "6>3 6>4 13>11", Boards.of(6, "m13 M10 m6"));
        are("no field behind, at the edge", "12>10", Boards.of(6, "m12 M9"));
        are("no field behind, at the last row", "4>0+", Boards.of(6, "m4 M1"));
        are("not over its own", "10>6 10>7 13>11", Boards.of(6, "m13 m10"));
        are("not from afar", "13>10 13>11", Boards.of(6, "m13 M7"));
        are("the last row behind", "6>1x4+", Boards.of(6, "m6 M4"));
    }

    /** "forward or, by law 0, any way, a man". */
    static void promise12MovesCaptureBackwardsByLaw0() {
        are("law 0 is 0", "7>4 7>5", Boards.of(6, "m7 M11"));
        are("law 0 is 1", "7>14x11", Boards.of(6, "0=1", "m7 M11"));
        are("law 0 is 0, the side 1", "10>12 10>13", turned(6, "", "M10 m7"));
        are("law 0 is 1, the side 1", "10>5x7", turned(6, "0=1", "M10 m7"));
        are("law 0 is 0, no going on back", "15>10x12", Boards.of(6, "m15 M12 M13"));
        are("law 0 is 1, going on back", "15>17x12,13", Boards.of(6, "0=1", "m15 M12 M13"));
    }

    /** "a king likewise any way", to the field behind. */
    static void promise12MovesOfAKingCaptureAnyWay() {
        are("up and left", "10>3x6", Boards.of(6, "k10 M6"));
        are("up and right", "10>5x7", Boards.of(6, "k10 M7"));
        are("down and left", "10>15x12", Boards.of(6, "k10 M12"));
        are("down and right", "10>17x13", Boards.of(6, "k10 M13"));
        are("not from afar", "7>4 7>5 7>10 7>11", Boards.of(6, "k7 M14"));
        are("not to afar", "15>10x12", Boards.of(6, "k15 M12"));
    }

    /** "if it flies over any number of empty fields ahead": none, all that there are, never over its own. */
    static void promise12MovesFlyOverFieldsAhead() {
        are("none", "15>2x12 15>5x12 15>7x12 15>10x12", Boards.of(6, "1=1", "k15 M12"));
        are("three", "15>2x5", Boards.of(6, "1=1", "k15 M5"));
        are("five", "28>3x7", Boards.of(8, "1=1", "k28 M7"));
        are("five the other way", "3>28x24", Boards.of(8, "1=1", "k3 M24"));
        are("its own ahead", "12>7x10", Boards.of(6, "1=1", "k15 m12 M10"));
        are("two of the other side in a row", "15>12", Boards.of(6, "1=1", "k15 M10 M7"));
    }

    /** "to any of the empty fields behind that follow each other": from one to all, none behind a piece. */
    static void promise12MovesFlyToFieldsBehind() {
        are("one", "15>10x12", Boards.of(6, "1=1", "k15 M12 m7"));
        are("two", "15>7x12 15>10x12", Boards.of(6, "1=1", "k15 M12 m5"));
        are("five", "28>3x24 28>7x24 28>10x24 28>14x24 28>17x24 28>21x24", Boards.of(8, "1=1", "k28 M24"));
        are("none", "5>1+ 5>2+ 10>6 15>12", Boards.of(6, "1=1", "k15 m10 M7 m5"));
    }

    /** "also to one from which it cannot go on though it could from another one". */
    static void promise12MovesFlyToFieldsWithoutMore() {
        are("one of three goes on", "15>0x4,10 15>2x10 15>5x10", Boards.of(6, "1=1", "k15 M10 M4"));
    }

    /** "A capture goes on by another one, any of those that there are, as long as there is one". */
    static void promise12MovesCaptureAsLongAsTheyCan() {
        are("two", "16>4x7,13", Boards.of(6, "m16 M13 M7"));
        are("three", "28>5x8,16,24", Boards.of(8, "m28 M24 M16 M8"));
        are("either way", "15>3x6,12 15>5x7,12", Boards.of(6, "m15 M12 M6 M7"));
        are("nine", "24>3x5,6,7,13,14,15,21,22,23",
            Boards.of(8, "2=1", "k24 M5 M6 M7 M13 M14 M15 M21 M22 M23"));
    }

    /** "it cannot go over a piece twice". */
    static void promise12MovesCaptureNoPieceTwice() {
        for (String law : new String[] {"4=0", "4=1"}) {
            are("a man and back, " + law, "13>6x10", Boards.of(6, "0=1 " + law, "m13 M10"));
            are("a king and back, " + law, "13>6x10", Boards.of(6, law, "k13 M10"));
            are("flying and back, " + law, "15>2x10 15>5x10 15>7x10", Boards.of(6, "1=1 " + law, "k15 M10"));
        }
    }

    /** "By law 4 being 0 captured pieces stand until the end, and nobody can go over or to them": not over. */
    static void promise12MovesDoNotGoOverWhatWasCaptured() {
        are("law 4 is 0", "10>2x7 10>5x7 10>15x12", Boards.of(6, "1=1", "k10 K7 K12"));
        are("law 4 is 1", "10>2x7,12 10>5x7,12 10>15x7,12", Boards.of(6, "1=1 4=1", "k10 K7 K12"));
    }

    /** "and nobody can go over or to them": not to. */
    static void promise12MovesDoNotEndWhereOneWasCaptured() {
        String pieces = "k28 M21 M9 M8 M16";
        are("law 4 is 0", "28>12x8,9,21", Boards.of(8, "1=1 2=1", pieces));
        are("law 4 is 1", "28>21x8,9,16,21 28>25x8,9,16,21 28>30x8,9,16,21", Boards.of(8, "1=1 2=1 4=1", pieces));
        String beyond = "k30 K5 K6 K26 K17";
        are("beyond another one, law 4 is 0", "30>0x5,26 30>12x5,6,26 30>22x5,6,17,26", Boards.of(8, "1=1", beyond));
        are("beyond another one, law 4 is 1",
            "30>0x5,26 30>12x5,6,26 30>22x5,6,17,26 30>26x5,6,17,26 30>31x5,6,17,26",
            Boards.of(8, "1=1 4=1", beyond));
    }

    /** "the field from which the piece set out is empty meanwhile": it can end there, or go over it. */
    static void promise12MovesLeaveTheFirstFieldEmpty() {
        are("it ends there", "16>16x6,7,12,13", Boards.of(6, "k16 M6 M7 M12 M13"));
        are("a man ends there", "16>16x6,7,12,13", Boards.of(6, "0=1", "m16 M6 M7 M12 M13"));
        are("it flies over it", "10>19x5,14,15,16", Boards.of(8, "1=1 2=1", "k10 M5 M14 M15 M16"));
        Huffboard board = Boards.of(6, "k16 M6 M7 M12 M13");
        board.play(0);
        Check.same("where it ends", "----------------k-", Boards.pieces(board));
    }

    /** "By law 5 being 2 a man that came to its last row does not go on"; by 0 and 1 it does, as a man, as a king. */
    static void promise12MovesGoOnFromTheLastRowByLaw5() {
        are("as a man forward alone, law 5 is 0", "6>1x4+", Boards.of(6, "m6 M4 M5"));
        are("as a man any way, law 5 is 0", "6>8x4,5", Boards.of(6, "0=1", "m6 M4 M5"));
        are("as a king, law 5 is 1", "6>8x4,5+", Boards.of(6, "5=1", "m6 M4 M5"));
        are("as a king that flies, law 5 is 1", "8>15x5,10+ 8>19x5,10+", Boards.of(8, "1=1 5=1", "m8 M5 M10"));
        are("as a man that does not fly, law 5 is 0", "8>1x5+", Boards.of(8, "0=1 1=1", "m8 M5 M10"));
        are("not at all, law 5 is 2", "6>1x4+", Boards.of(6, "0=1 5=2", "m6 M4 M5"));
        are("a king does, law 5 is 2", "6>8x4,5", Boards.of(6, "5=2", "k6 M4 M5"));
        are("the side 1, law 5 is 1", "11>9x12,13+", turned(6, "5=1", "M11 m13 m12"));
        are("the side 1, law 5 is 2", "11>16x13+", turned(6, "0=1 5=2", "M11 m13 m12"));
    }

    // Promise 12: moves alike, their order, and which are allowed

    /** "Moves are alike if they set out from the same field, end on the same one, and capture the same pieces". */
    static void promise12MovesThatAreAlikeCountOnce() {
        are("two ways round", "16>16x6,7,12,13", Boards.of(6, "k16 M6 M7 M12 M13"));
        are("by two fields between", "15>2x5,12", Boards.of(6, "1=1", "k15 M12 M5"));
        are("others that capture others", "16>4x6,12 16>4x7,13", Boards.of(6, "m16 M6 M7 M12 M13"));
        are("others that end elsewhere", "15>2x10 15>5x10 15>7x10", Boards.of(6, "1=1", "k15 M10"));
        are("others that set out elsewhere", "12>7x10 13>6x10", Boards.of(6, "m12 m13 M10"));
    }

    /** "ordered by the field from which, then the one to which, then the sum ..., lower ones ahead". */
    static void promise12MovesStandInTheirOrder() {
        are("by from ahead of to", "12>9 12>10 16>13", Boards.of(6, "m16 m12"));
        are("by to ahead of the sum", "15>0x4,10 15>2x10 15>5x10", Boards.of(6, "1=1", "k15 M10 M4"));
        are("by the sum", "16>4x6,12 16>4x7,13", Boards.of(6, "m16 M6 M7 M12 M13"));
        are("steps among captures", "8>5 13>6x10 13>11 15>12", Boards.of(6, "6=0", "m15 m8 m13 M10"));
        are("the last fields", "31>26 31>27", Boards.of(8, "k31"));
    }

    /** "If there are captures, and law 6 is 1, no other moves are allowed". */
    static void promise12MovesAreCapturesAloneByLaw6() {
        are("law 6 is 1", "13>6x10", Boards.of(6, "m13 M10 m17 k0"));
        are("law 6 is 0", "0>3 0>4 13>6x10 13>11 17>14", Boards.of(6, "6=0", "m13 M10 m17 k0"));
        are("law 6 is 1, no captures", "0>3 0>4 13>10 13>11", Boards.of(6, "m13 k0"));
    }

    /** "captures by laws 2 and 3 always": also as law 6 is 0. */
    static void promise12MovesKeepLaws2And3WithoutLaw6() {
        are("law 2 is 0", "8>5 14>7x11 15>3x6,12", Boards.of(6, "6=0", "m8 m14 M11 m15 M12 M6"));
        are("law 2 is 1", "8>5 15>3x6,12", Boards.of(6, "6=0 2=1", "m8 m14 M11 m15 M12 M6"));
        are("law 2 is 2", "8>5 15>3x6,12", Boards.of(6, "6=0 2=2", "m8 m14 M11 m15 M12 M6"));
        are("law 3 is 0", "3>0+ 6>1x4+ 17>10x13 17>14", Boards.of(6, "6=0", "m3 m6 M4 k17 M13"));
        are("law 3 is 1", "3>0+ 17>10x13 17>14", Boards.of(6, "6=0 3=1", "m3 m6 M4 k17 M13"));
    }

    /** "2 which captures one may choose from: 0 all, 1 those of the most pieces". */
    static void promise12MovesOfTheMostPiecesByLaw2() {
        String pieces = "m19 K15 m28 M24 M17 m30 M26 K18";
        are("all", "19>10x15 28>14x17,24 30>14x18,26", Boards.of(8, pieces));
        are("all of the most", "28>14x17,24 30>14x18,26", Boards.of(8, "2=1", pieces));
        are("one each", "19>10x15 28>21x24", Boards.of(8, "2=1", "m19 K15 m28 M24"));
        are("none", "13>10 13>11", Boards.of(6, "2=1", "m13"));
    }

    /** "2 those of the greatest value, a man being 2, a king 3": two kings are as much as three men. */
    static void promise12MovesOfTheGreatestValueByLaw2() {
        are("a king is more than a man", "19>10x15", Boards.of(8, "2=2", "m19 K15 m28 M24"));
        are("two men are more than a king", "28>14x17,24", Boards.of(8, "2=2", "m19 K15 m28 M24 M17"));
        are("three men are two kings", "28>5x8,16,24 30>14x18,26",
            Boards.of(8, "2=2", "m28 M24 M16 M8 m30 K26 K18"));
        are("three men are more than a king and a man", "28>5x8,16,24",
            Boards.of(8, "2=2", "m28 M24 M16 M8 m30 K26 M18"));
    }

    /** "3 whether of those that are left by law 2, if some are made by pieces that are kings ..., these alone". */
    static void promise12MovesByKingsAloneByLaw3() {
        are("law 3 is 0", "6>1x4+ 17>10x13", Boards.of(6, "m6 M4 k17 M13"));
        are("law 3 is 1", "17>10x13", Boards.of(6, "3=1", "m6 M4 k17 M13"));
        are("law 3 is 1, kings ahead", "2>7x5", Boards.of(6, "3=1", "k2 M5 m15 M12"));
        are("none by kings", "15>10x12", Boards.of(6, "3=1", "k2 m15 M12"));
        are("none left by law 2 by kings", "15>3x6,12", Boards.of(6, "2=1 3=1", "k2 M5 m15 M12 M6"));
        are("two left by law 2", "2>7x5", Boards.of(6, "2=1 3=1", "k2 M5 m15 M12"));
        are("kings as they set out", "6>8x4,5+ 15>10x12", Boards.of(6, "3=1 5=1", "m6 M4 M5 m15 M12"));
    }

    // Promises 13 to 17: what is asked of a move

    /** Each index of the moves that there are must be taken, the first ones beyond them refused. */
    private static void indexes(String what, Check.Maker maker, Call call) {
        int moves = maker.make().moves();
        for (int move : new int[] {-1, moves, LEAST, GREATEST}) {
            Check.refuses(what + " " + move + " of " + moves, INDEX, maker, board -> call.of(board, move));
        }
        for (int i = 0; i < moves; i++) {
            int move = i;
            Object got = Boards.answer(() -> call.of(maker.make(), move));
            Check.no(what + " " + move + " of " + moves + " is refused", "IndexOutOfBoundsException".equals(got));
        }
    }

    private interface Call {
        Object of(Huffboard board, int move);
    }

    private static void indexesOfAllBoards(String what, Call call) {
        indexes(what + " set", Boards::set, call);
        indexes(what + " begun", Boards::begun, call);
        indexes(what + " nothing there", Huffboard::new, call);
        indexes(what + " over", Edges::wonByLaw8, call);
    }

    /** "Throws IndexOutOfBoundsException if there is no such move". */
    static void promise13FromTakesTheMovesThatThereAre() {
        indexesOfAllBoards("from", Huffboard::from);
        Huffboard board = Boards.of(6, "m3 m13");
        Check.same("the first", 3, board.from(0));
        Check.same("the last", 13, board.from(2));
        Check.same("the greatest field", 31, Boards.of(8, "k31").from(0));
        Check.same("the least field", 0, Boards.of(8, "k0").from(0));
    }

    /** "Throws IndexOutOfBoundsException if there is no such move". */
    static void promise14ToTakesTheMovesThatThereAre() {
        indexesOfAllBoards("to", Huffboard::to);
        Huffboard board = Boards.of(6, "m3 m13");
        Check.same("the first", 0, board.to(0));
        Check.same("the last", 11, board.to(2));
        Check.same("the greatest field", 31, Boards.of(8, "k27").to(1));
    }

    /** "Throws IndexOutOfBoundsException if there is no such move". */
    static void promise15CapturedTakesTheMovesThatThereAre() {
        indexesOfAllBoards("captured", Huffboard::captured);
        Check.same("none", 0, Boards.of(6, "m13").captured(0));
        Check.same("one", 1, Boards.of(6, "m13 M10").captured(0));
        Check.same("nine", 9, Boards.of(8, "2=1", "k24 M5 M6 M7 M13 M14 M15 M21 M22 M23").captured(0));
    }

    /** "Throws IndexOutOfBoundsException if there is no such move". */
    static void promise16CapturesTakesTheMovesThatThereAre() {
        indexesOfAllBoards("captures", (board, move) -> board.captures(move, 0));
    }

    /** "Throws IndexOutOfBoundsException if there is no such move or field". */
    static void promise16CapturesTakesTheFieldsThatThereAre() {
        for (int field : new int[] {-1, 8, LEAST, GREATEST}) {
            Check.refuses("field " + field, INDEX, Boards::set, board -> board.captures(0, field));
            Check.refuses("no move, field " + field, INDEX, Boards::set, board -> board.captures(99, field));
        }
        Huffboard board = Boards.of(8, "k20 M9 M10 M17 M18 M24 M25 M26");
        Check.no("the first field", board.captures(1, 0));
        Check.no("the last field", board.captures(1, 31));
        StringBuilder captured = new StringBuilder();
        for (int field = 0; field < 32; field++) {
            captured.append(board.captures(1, field) ? field + " " : "");
        }
        Check.same("all fields", "9 10 17 18 24 25 26 ", captured.toString());
        Check.no("by a step, where it sets out", Boards.of(6, "m13").captures(0, 13));
        Check.no("by a step, where it ends", Boards.of(6, "m13").captures(0, 10));
    }

    /** "A man that ends on its last row is a king." */
    static void promise17CrownsOnTheLastRowAlone() {
        indexesOfAllBoards("crowns", Huffboard::crowns);
        Check.yes("a step to the last row", Boards.of(6, "m3").crowns(0));
        Check.no("a step to the row ahead of it", Boards.of(6, "m6").crowns(0));
        Check.yes("of the side 1", turned(6, "", "M14").crowns(0));
        Check.no("of the side 1, to the row ahead", turned(6, "", "M11").crowns(0));
        Check.no("of the side 1 to the row 0, by a king", turned(6, "", "K3").crowns(0));
        Check.no("a king to the last row", Boards.of(6, "k3").crowns(0));
        Check.yes("a capture to the last row", Boards.of(6, "m6 M4").crowns(0));
        Check.no("a capture to the row behind it", Boards.of(6, "m9 M6").crowns(0));
        Check.no("a king by a capture", Boards.of(6, "k6 M4").crowns(0));
        Huffboard board = Boards.of(6, "m3 M14");
        board.play(0);
        board.play(0);
        Check.same("what they are then", "k----------------K", Boards.pieces(board));
    }

    /** "0 it goes on as a man, and is a king if it ends there, 1 it is a king at once ... 2 the move ends there". */
    static void promise17CrowningByACaptureGoesByLaw5() {
        Check.no("0, it does not end there", Boards.of(6, "0=1 5=0", "m6 M4 M5").crowns(0));
        Check.yes("0, it ends there", Boards.of(6, "5=0", "m6 M4 M5").crowns(0));
        Check.yes("1, it does not end there", Boards.of(6, "5=1", "m6 M4 M5").crowns(0));
        Check.yes("1, it ends there", Boards.of(6, "5=1", "m6 M4").crowns(0));
        Check.yes("2, it ends there", Boards.of(6, "0=1 5=2", "m6 M4 M5").crowns(0));
        Huffboard man = Boards.of(6, "0=1 5=0", "m6 M4 M5");
        man.play(0);
        Check.same("0, what it is then", 'm', man.at(8));
        Huffboard king = Boards.of(6, "0=1 5=1", "m6 M4 M5");
        king.play(0);
        Check.same("1, what it is then", 'k', king.at(8));
    }

    // Promise 19

    /** "Throws IndexOutOfBoundsException if there is no such field, for either". */
    static void promise19ToldTakesTheFieldsThatThereAre() {
        for (int field : new int[] {-1, 8, LEAST, GREATEST}) {
            Check.refuses("from " + field, INDEX, Boards::set, board -> board.told(field, 0));
            Check.refuses("to " + field, INDEX, Boards::set, board -> board.told(0, field));
            Check.refuses("both " + field, INDEX, Boards::begun, board -> board.told(field, field));
        }
        Check.same("the first field", 1, Boards.of(8, "k0").told(0, 5));
        Check.same("the last field", 1, Boards.of(8, "k31").told(31, 27));
        Check.same("to the last field", 1, Boards.of(8, "k27").told(27, 31));
        Check.same("none to itself", 0, Boards.of(8, "k27").told(27, 27));
    }

    /** "Returns how many": none, one, several, also round to where it set out, none as the game is over. */
    static void promise19ToldNoneOneAndSeveral() {
        Huffboard several = Boards.of(6, "m16 M6 M7 M12 M13");
        Check.same("two", 2, several.told(16, 4));
        Check.same("none", 0, several.told(16, 9));
        Check.same("none the other way", 0, several.told(4, 16));
        Check.same("one round", 1, Boards.of(6, "k16 M6 M7 M12 M13").told(16, 16));
        Huffboard refused = Boards.of(6, "m13 M10");
        Check.same("none, one must capture", 0, refused.told(13, 11));
        Boards.answer(() -> refused.move(13, 11));
        Check.same("none behind a refusal, either", 0, refused.told(13, 11));
        Check.same("none on the empty board", 0, new Huffboard().told(0, 3));
        Check.same("none as the game is over", 0, wonByLaw8().told(5, 7));
        Check.same("none as it is drawn", 0, Boards.of(6, "10=1", "m13").told(13, 10));
    }
}
