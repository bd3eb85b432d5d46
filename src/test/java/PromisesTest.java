/** What each promise says of its method at all, in ordinary positions: one test for each sentence. */
public final class PromisesTest extends Edges {
    public static void main(String[] args) {
        Check.all(PromisesTest.class);
    }

    // Promises 1 to 11: the board

    /** "Creates a hall with an empty board of 6 rows." */
    static void promise1ANewObject() {
        Huffboard board = new Huffboard();
        Check.same("fields", 18, board.fields());
        Check.same("pieces", "------------------", Boards.pieces(board));
        Check.same("6 rows, the last field of the last one", 14, board.beside(17, 1));
    }

    /**
     * "Lays an empty board; a game, a table and a book are gone, laws and barred moves stay; the side 0 moves
     * first." "Returns how many fields it has."
     */
    static void promise2LaysAnEmptyBoard() {
        Huffboard board = Boards.of(4, "6=0", "m7 M4 k1");
        board.turn(1);
        board.solve(1);
        board.claim('w');
        board.bar(7, 5);
        board.play(0);
        Check.same("how many fields", 12, board.board(5));
        Check.same("pieces", "------------", Boards.pieces(board));
        Check.same("the game", 0, board.played());
        Check.same("the table", "IllegalStateException", Boards.answer(board::longest));
        Check.same("the book", 1, board.claim('d'));
        Check.same("the laws", 0, board.law(6, 1));
        Check.same("the barred moves", 1, board.unbar());
        Check.same("who moves first", 0, board.side());
    }

    /** "Sets a law." "Returns the value before." */
    static void promise3SetsALaw() {
        Huffboard board = Boards.of(6, "m7 M11");
        Check.same("before", 0, board.law(0, 1));
        Check.same("it is set", "7>14x11", Boards.moves(board));
        Check.same("the value that was set", 1, board.law(0, 0));
        Check.same("it is set again", "7>4 7>5", Boards.moves(board));
        Check.same("another one is not", 1, board.law(6, 1));
    }

    /** "law: the law": each of them holds its own value. */
    static void promise3EachLawHasItsOwnValue() {
        int[] values = {1, 0, 2, 1, 0, 1, 0, 1, 0, 77, 4};
        Huffboard board = new Huffboard();
        for (int law = 0; law < values.length; law++) {
            board.law(law, values[law]);
        }
        for (int law = 0; law < values.length; law++) {
            Check.same("law " + law, values[law], board.law(law, 0));
        }
    }

    /** "Throws UnsupportedOperationException if a move is played". */
    static void promise3WhileAMoveIsPlayed() {
        for (int moves = 1; moves <= 4; moves++) {
            Huffboard board = Boards.toAndFro("", moves);
            Check.same("behind " + moves, "UnsupportedOperationException", Boards.answer(() -> board.law(1, 1)));
        }
    }

    /** "Puts a piece in place of what is there." "Returns what was there." */
    static void promise4PutsAPiece() {
        Huffboard board = new Huffboard();
        Check.same("on an empty field", '-', board.put(10, 'm'));
        Check.same("in place of a man", 'm', board.put(10, 'K'));
        Check.same("what is there", 'K', board.at(10));
        Check.same("one alone", "----------K-------", Boards.pieces(board));
        Check.same("taken off", 'K', board.put(10, '-'));
        Check.same("nothing is there", '-', board.at(10));
    }

    /** "field: the field". */
    static void promise4OnEachField() {
        for (int field = 0; field < 18; field++) {
            Huffboard board = new Huffboard();
            board.put(field, 'k');
            Check.same("on " + field, field, Boards.pieces(board).indexOf('k'));
            Check.same("no other one, " + field, 1, board.pieces(0, true));
        }
    }

    /** "Throws IllegalArgumentException if there is no such piece, or it is a man on its last row". */
    static void promise4NoSuchPieceOrAManOnItsLastRow() {
        Huffboard board = new Huffboard();
        Check.same("no such piece", "IllegalArgumentException", Boards.answer(() -> board.put(10, 'q')));
        Check.same("m", "IllegalArgumentException", Boards.answer(() -> board.put(2, 'm')));
        Check.same("M", "IllegalArgumentException", Boards.answer(() -> board.put(15, 'M')));
        Check.same("m on the last row of the other side", '-', board.put(15, 'm'));
        Check.same("M on the last row of the other side", '-', board.put(2, 'M'));
    }

    /** "Throws UnsupportedOperationException if a move is played". */
    static void promise4WhileAMoveIsPlayed() {
        Huffboard board = Boards.of(6, "m13 M4");
        board.play(0);
        Check.same("a piece", "UnsupportedOperationException", Boards.answer(() -> board.put(0, 'k')));
        Check.same("none", "UnsupportedOperationException", Boards.answer(() -> board.put(4, '-')));
        board.back();
        Check.same("taken back", '-', board.put(0, 'k'));
    }

    /**
     * "Takes all pieces off, and puts men of the side 1 on all fields of the first rows, those of the side 0 on those
     * of the last rows; who moves first stays." "Returns how many pieces there are."
     */
    static void promise5TakesAllOffAndPutsMen() {
        Huffboard board = Boards.of(7, "k10 K12 m20 M3 k0");
        board.turn(1);
        Check.same("how many", 14, board.fill(2));
        Check.same("men", "MMMMMMM----------mmmmmmm", Boards.pieces(board));
        Check.same("who moves first", 1, board.side());
        Check.same("how many, none", 0, board.fill(0));
        Check.same("all off", "------------------------", Boards.pieces(board));
    }

    /**
     * "rows: how many rows each, 0 to 1 less than half of the rows, cut". "Throws IllegalArgumentException if it is
     * out of range".
     */
    static void promise5RowsLessThanHalf() {
        int[] most = {1, 1, 2, 2, 3};
        for (int size = 4; size <= 8; size++) {
            for (int rows = -1; rows <= 5; rows++) {
                Huffboard board = Boards.of(size, "");
                int asked = rows;
                boolean isTaken = rows >= 0 && rows <= most[size - 4];
                Object due = isTaken ? 2 * (rows * size / 2) : "IllegalArgumentException";
                Check.same(rows + " of " + size, due, Boards.answer(() -> board.fill(asked)));
            }
        }
    }

    /** "Tells which side moves first." "side: the side" "Returns the one before." */
    static void promise6TellsWhichSideMovesFirst() {
        Huffboard board = Boards.of(6, "m13 M4");
        Check.same("before", 0, board.turn(1));
        Check.same("it moves", "4>6 4>7", Boards.moves(board));
        Check.same("the other one before", 1, board.turn(0));
        Check.same("that moves", "13>10 13>11", Boards.moves(board));
    }

    /** "Returns how many fields there are. Returns how many." */
    static void promise7HowManyFields() {
        Check.same("6 rows", 18, new Huffboard().fields());
        Check.same("5 rows", 12, Boards.of(5, "").fields());
        Check.same("8 rows, in a game", 32, wonIn8().fields());
    }

    private static Huffboard wonIn8() {
        Huffboard board = Boards.of(8, "m13 M10");
        board.play(0);
        return board;
    }

    /** "Returns what is on a field. field: the field Returns m, k, M, K or -." */
    static void promise8WhatIsOnAField() {
        Huffboard board = Boards.of(6, "m9 k10 M11 K12");
        Check.same("a man", 'm', board.at(9));
        Check.same("a king", 'k', board.at(10));
        Check.same("a man of the side 1", 'M', board.at(11));
        Check.same("a king of the side 1", 'K', board.at(12));
        Check.same("none", '-', board.at(13));
    }

    /**
     * "Returns how many pieces a side has. side: the side areKings: whether kings are asked, otherwise men Returns
     * how many."
     */
    static void promise9HowManyPieces() {
        Huffboard board = Boards.of(6, "m9 m13 m14 k0 k1 M4 K12 K10 K16 K17");
        Check.same("men of 0", 3, board.pieces(0, false));
        Check.same("kings of 0", 2, board.pieces(0, true));
        Check.same("men of 1", 1, board.pieces(1, false));
        Check.same("kings of 1", 4, board.pieces(1, true));
    }

    /** "Returns which side moves. Returns the side." */
    static void promise10WhichSideMoves() {
        Huffboard board = Boards.of(6, "m13 M4");
        Check.same("at first", 0, board.side());
        board.play(0);
        Check.same("behind one", 1, board.side());
        board.play(0);
        Check.same("behind two", 0, board.side());
        board.back();
        Check.same("taken back", 1, board.side());
        board.back();
        board.turn(1);
        Check.same("turned", 1, board.side());
        board.play(0);
        Check.same("behind one of the side 1", 0, board.side());
    }

    /** "Returns the field beside one. field: the field way: the way Returns the field, -1 for none." */
    static void promise11TheFieldBesideOne() {
        Huffboard board = new Huffboard();
        int[] due = {6, 7, 12, 13};
        for (int way = 0; way < 4; way++) {
            Check.same("beside 10, " + way, due[way], board.beside(10, way));
            Check.same("and back, " + way, 10, board.beside(due[way], 3 - way));
        }
        Check.same("beyond the left edge", -1, board.beside(9, 0));
        Check.same("above the first row", -1, board.beside(1, 1));
        Check.same("below the last row", -1, board.beside(16, 2));
        Check.same("beyond the right edge", -1, board.beside(8, 3));
    }

    /**
     * "Throws IndexOutOfBoundsException if there is no such field Throws IllegalArgumentException if there is no such
     * way".
     */
    static void promise11NoSuchFieldOrWay() {
        Huffboard board = new Huffboard();
        Check.same("field 18", "IndexOutOfBoundsException", Boards.answer(() -> board.beside(18, 0)));
        Check.same("field -1", "IndexOutOfBoundsException", Boards.answer(() -> board.beside(-1, 0)));
        Check.same("way 4", "IllegalArgumentException", Boards.answer(() -> board.beside(0, 4)));
        Check.same("way -1", "IllegalArgumentException", Boards.answer(() -> board.beside(0, -1)));
    }

    // Promises 12 to 17: what moves there are

    /** A board with four moves, the third one a capture of two pieces. */
    private static Huffboard several() {
        return Boards.of(6, "6=0", "k2 m9 m16 M13 M7");
    }

    /** "Returns how many moves there are, 0 if the game is over. Returns how many." */
    static void promise12HowManyMoves() {
        Check.same("moves", "2>5 9>6 16>4x7,13 16>12", Boards.moves(several()));
        Check.same("how many", 4, several().moves());
        Check.same("over", 0, wonByLaw8().moves());
    }

    /** "Returns from which field a move sets out. move: the index of the move, from 0 Returns the field." */
    static void promise13FromWhichField() {
        int[] due = {2, 9, 16, 16};
        for (int move = 0; move < due.length; move++) {
            Check.same("move " + move, due[move], several().from(move));
        }
    }

    /** "Returns on which field a move ends. move: the index of the move, from 0 Returns the field." */
    static void promise14OnWhichFieldItEnds() {
        int[] due = {5, 6, 4, 12};
        for (int move = 0; move < due.length; move++) {
            Check.same("move " + move, due[move], several().to(move));
        }
    }

    /** "Returns how many pieces a move captures. move: the index of the move, from 0 Returns how many." */
    static void promise15HowManyPiecesItCaptures() {
        int[] due = {0, 0, 2, 0};
        for (int move = 0; move < due.length; move++) {
            Check.same("move " + move, due[move], several().captured(move));
        }
    }

    /**
     * "Returns whether a move captures what is on a field. move: the index of the move, from 0 field: the field
     * Returns true if so."
     */
    static void promise16WhetherItCapturesWhatIsThere() {
        Huffboard board = several();
        for (int move = 0; move < 4; move++) {
            for (int field = 0; field < 18; field++) {
                boolean due = move == 2 && (field == 7 || field == 13);
                Check.same(field + " by the move " + move, due, board.captures(move, field));
            }
        }
    }

    /**
     * "Returns whether by a move a man becomes a king. move: the index of the move, from 0 Returns true if so. Throws
     * IndexOutOfBoundsException if there is no such move"
     */
    static void promise17WhetherAManBecomesAKing() {
        Huffboard board = Boards.of(6, "k4 m3 m13");
        Check.same("moves", "3>0+ 4>0 4>1 4>6 4>7 13>10 13>11", Boards.moves(board));
        for (int move = 0; move < 7; move++) {
            Check.same("move " + move, move == 0, board.crowns(move));
        }
        Check.same("no such move", "IndexOutOfBoundsException", Boards.answer(() -> board.crowns(7)));
        board.play(0);
        Check.same("it is one", 'k', board.at(0));
    }

    // Promises 18 to 28: games

    /** "Plays a move. move: the index of the move, from 0 Returns the state then." */
    static void promise18PlaysAMove() {
        String[] due = {"-----k-M-m---M--m-", "--k---mM-----M--m-", "--k-m----m--------", "--k----M-m--mM----"};
        for (int move = 0; move < due.length; move++) {
            Huffboard board = several();
            Check.same("state behind " + move, move == 2 ? '0' : 'p', board.play(move));
            Check.same("pieces behind " + move, due[move], Boards.pieces(board));
            Check.same("who moves behind " + move, 1, board.side());
            Check.same("how many are kept behind " + move, 1, board.played());
        }
    }

    /** "Returns how many moves are told by two fields. from: a field to: another one Returns how many." */
    static void promise19HowManyAreTold() {
        Check.same("one", 1, several().told(16, 4));
        Check.same("none", 0, several().told(4, 16));
        Check.same("two", 2, Boards.of(6, "m16 M6 M7 M12 M13").told(16, 4));
    }

    /** "Plays the one move that is told by two fields. from: a field to: another one Returns the state then." */
    static void promise20PlaysTheOneMoveThatIsTold() {
        Huffboard board = several();
        Check.same("the last one", 'p', board.move(16, 12));
        Check.same("pieces", "--k----M-m--mM----", Boards.pieces(board));
        Huffboard capture = several();
        Check.same("the capture", '0', capture.move(16, 4));
        Check.same("pieces then", "--k-m----m--------", Boards.pieces(capture));
    }

    /** "Returns why the last move by two fields was not played. Returns the letter." */
    static void promise21WhyItWasNotPlayed() {
        Huffboard board = Boards.of(6, "m13 M10 m17 K2");
        Boards.answer(() -> board.move(17, 14));
        Check.same("one must capture", 'c', board.why());
        Boards.answer(() -> board.move(17, 10));
        Check.same("there is none", 'n', board.why());
    }

    /** "Huffs a piece. field: the field where it is Returns the state then." */
    static void promise22HuffsAPiece() {
        Huffboard board = several();
        board.move(2, 5);
        Check.same("the state", 'p', board.huff(16));
        Check.same("it is gone", "-----k-M-m---M----", Boards.pieces(board));
        Check.same("who moves", 1, board.side());
    }

    /** "Returns how many pieces could be huffed. Returns how many." */
    static void promise23HowManyCouldBeHuffed() {
        int[] due = {1, 1, 0, 1};
        for (int move = 0; move < due.length; move++) {
            Huffboard board = Boards.of(6, "6=0", "k2 m9 m16 M13 M7 K17");
            board.play(move);
            Check.same("behind " + move, due[move], board.huffs());
        }
    }

    /** "Takes the last move back. Returns how many are kept then." */
    static void promise24TakesTheLastMoveBack() {
        Huffboard board = Boards.of(6, "m13 M4 k17");
        board.move(13, 10);
        String before = Boards.print(board);
        board.move(4, 7);
        Check.same("how many are kept", 1, board.back());
        Check.same("as it was", before, Boards.print(board));
        Check.same("none is kept", 0, board.back());
        Check.same("at first", "----M--------m---k", Boards.pieces(board));
    }

    /** "Returns how many moves are kept. Returns how many." */
    static void promise25HowManyAreKept() {
        for (int moves = 0; moves <= 9; moves++) {
            Check.same("moves", moves, Boards.toAndFro("", moves).played());
        }
        Huffboard board = Boards.toAndFro("", 9);
        board.back();
        board.back();
        Check.same("two are taken back", 7, board.played());
    }

    /** "Returns how the game is. Returns p it goes on, 0 or 1 this side won, d drawn." */
    static void promise26HowTheGameIs() {
        Check.same("it goes on", 'p', Boards.of(6, "m13 M4").state());
        Check.same("the side 0 won", '0', turned(6, "", "m13").state());
        Check.same("the side 1 won", '1', Boards.of(6, "M4").state());
        Check.same("drawn", 'd', Boards.toAndFro("9=2", 2).state());
    }

    /** "Returns how many moves in a row, the last ones, were by kings and no captures. Returns how many." */
    static void promise27HowManyWereByKings() {
        Huffboard board = Boards.of(6, "6=0", "k15 m17 K2 M7");
        Check.same("at first", 0, board.calm());
        board.move(15, 12);
        board.move(2, 5);
        board.move(12, 15);
        Check.same("three by kings", 3, board.calm());
        board.move(7, 10);
        Check.same("one by a man", 0, board.calm());
        board.move(15, 12);
        Check.same("one by a king", 1, board.calm());
        board.move(5, 2);
        Check.same("two by kings", 2, board.calm());
        board.move(12, 15);
        board.move(2, 5);
        board.move(15, 12);
        Check.same("five by kings", 5, board.calm());
    }

    /** "Returns how often the position, with who moves, was there in the game, now included. Returns how often." */
    static void promise28HowOftenItWasThere() {
        int[] due = {1, 1, 1, 1, 2, 2, 2, 2, 3};
        for (int moves = 0; moves < due.length; moves++) {
            Check.same("behind " + moves, due[moves], Boards.toAndFro("", moves).seen());
        }
    }

    // Promises 29 to 39: lines, tables, proofs

    /**
     * "Returns in how many ways so many moves can be played one behind the other; a game that is over goes on no more,
     * draws aside. depth: 0 to 4 Returns how many."
     */
    static void promise29InHowManyWays() {
        Huffboard board = Boards.of(6, "9=1", "k15 K2 m13 M4");
        for (int depth = 0; depth <= 4; depth++) {
            Check.same("of " + depth, ways(Boards.of(6, "k15 K2 m13 M4"), depth), board.lines(depth));
        }
        Check.same("of two that end it", 0, Boards.of(6, "m13 M10").lines(2));
    }

    private static int ways(Huffboard board, int depth) {
        if (depth == 0) {
            return 1;
        }
        int sum = 0;
        for (int i = 0; i < board.moves(); i++) {
            board.play(i);
            sum += ways(board, depth - 1);
            board.back();
        }
        return sum;
    }

    /**
     * "Solves a table. pieces: 1 to 3 Returns how many positions it has. Throws IllegalArgumentException if the number
     * is out of range Throws UnsupportedOperationException if the board has more than 13 fields"
     */
    static void promise30SolvesATable() {
        Huffboard board = Boards.of(4, "m7 M1");
        Check.same("none yet", "IllegalStateException", Boards.answer(board::value));
        Check.same("how many positions", 740, board.solve(2));
        Check.same("it is there", 'w', board.value());
        Check.same("out of range", "IllegalArgumentException", Boards.answer(() -> board.solve(0)));
        Check.same("12 fields", 1860, Boards.of(5, "").solve(2));
        Check.same("18 fields", "UnsupportedOperationException", Boards.answer(() -> Boards.of(6, "").solve(2)));
    }

    private static Huffboard solved(int rows, String pieces) {
        Huffboard board = Boards.of(rows, pieces);
        board.solve(3);
        return board;
    }

    /** "Returns the value of the position by the table. Returns w, l or d." */
    static void promise31TheValueByTheTable() {
        Huffboard board = solved(4, "m7 M1");
        Check.same("at first", 'w', board.value());
        board.play(0);
        Check.same("behind the first move", 'l', board.value());
        Check.same("two kings", 'd', solved(4, "k7 K0").value());
    }

    /** "Returns in how many moves it is won or lost by the table. Returns how many, -1 for a drawn one." */
    static void promise32InHowManyMoves() {
        Huffboard board = solved(4, "m7 M1");
        Check.same("won in", 3, board.distance());
        board.play(0);
        Check.same("lost in", 2, board.distance());
        board.play(0);
        Check.same("won in the last one", 1, board.distance());
        board.play(0);
        Check.same("lost already", 0, board.distance());
        Check.same("two kings", -1, solved(4, "k7 K0").distance());
    }

    /**
     * "Returns how many positions of a table have a value. value: w, l or d pieces: just how many pieces they have
     * Returns how many."
     */
    static void promise33HowManyHaveAValue() {
        Huffboard board = solved(4, "");
        int[] due = {28, 28, 0, 278, 218, 188, 1850, 1360, 1550};
        for (int i = 0; i < due.length; i++) {
            char value = "wld".charAt(i % 3);
            Check.same(value + " of " + (i / 3 + 1), due[i], board.count(value, i / 3 + 1));
        }
    }

    /** "Returns the greatest distance of a won position in the table. Returns the distance, -1 without any." */
    static void promise34TheGreatestDistanceOfAWonOne() {
        int[] due = {1, 5, 11};
        for (int most = 1; most <= 3; most++) {
            Huffboard board = Boards.of(4, "");
            board.solve(most);
            Check.same("of " + most, due[most - 1], board.longest());
        }
        Check.same("5 rows", 25, solved(5, "").longest());
    }

    /**
     * "Returns the first move that is best by the table: to one lost in the fewest moves, else to a drawn one, else to
     * one won in the most. Returns the index of the move."
     */
    static void promise35TheFirstBestMove() {
        String[] pieces = {"k4 m7 K0", "k8 k10 M3", "k1 k8 K11", "k9 M3", "k6 K1", "k6 K10 M0", "k6"};
        for (String told : pieces) {
            Huffboard board = solved(5, told);
            int found = -1;
            int most = Integer.MIN_VALUE;
            for (int i = 0; i < board.moves(); i++) {
                board.play(i);
                int worth = board.value() == 'd' ? 0 : board.value() == 'l' ? 99 - board.distance()
                    : board.distance() - 99;
                board.back();
                if (worth > most) {
                    most = worth;
                    found = i;
                }
            }
            Check.same(told, found, board.best());
        }
    }

    /** "Returns whether a win in at most so many moves can be proved. moves: 0 to 6 Returns true if so." */
    static void promise36WhetherAWinCanBeProved() {
        Huffboard board = Boards.of(5, "k3 M0");
        for (int moves = 0; moves <= 6; moves++) {
            Check.same("in " + moves, moves >= 5, board.proves(moves));
        }
    }

    /** "Returns how many keys there are. moves: 1 to 6 Returns how many." */
    static void promise37HowManyKeys() {
        int[] due = {0, 0, 1, 1, 4, 4};
        for (int moves = 1; moves <= 6; moves++) {
            Check.same("in " + moves, due[moves - 1], Boards.of(5, "k8 m10 M0").keys(moves));
        }
    }

    /** "Returns a key. moves: 1 to 6 index: the index, from 0 Returns the index of the move." */
    static void promise38AKey() {
        Huffboard board = Boards.of(6, "6=0", "m3 m13 M10");
        Check.same("moves", "3>0+ 13>6x10 13>11", Boards.moves(board));
        Check.same("the first key in 1", 1, board.keyAt(1, 0));
        Check.same("the only key in 3", 3, Boards.of(5, "k8 k10 M3").keyAt(3, 0));
        Check.same("the first key in 5", 2, Boards.of(5, "k8 k10 M3").keyAt(5, 0));
        Check.same("the second key in 5", 3, Boards.of(5, "k8 k10 M3").keyAt(5, 1));
    }

    /** "Returns the duals. moves: 1 to 6 Returns how many." */
    static void promise39TheDuals() {
        int[] due = {0, 0, 2, 2};
        for (int moves = 3; moves <= 6; moves++) {
            Check.same("in " + moves, due[moves - 3], Boards.of(5, "k8 m10 M0").duals(moves));
        }
    }

    // Promises 40 to 49: openings, books, and what can be counted

    /** "Bars a move. from: a field to: another one Returns how many are barred." */
    static void promise40BarsAMove() {
        Huffboard board = Boards.of(6, "m13 M2");
        Check.same("the first", 1, board.bar(13, 10));
        for (int seed = 0; seed < 20; seed++) {
            Check.same("one is drawn", 1, board.draw(seed, 1));
            Check.same("the other one", 'm', board.at(11));
            board.back();
        }
        Check.same("the second", 2, board.bar(13, 11));
        Check.same("none is drawn", 0, board.draw(0, 1));
        Check.same("they can be played", 2, board.moves());
    }

    /** "Bars no move any more. Returns how many were." */
    static void promise41BarsNoMoveAnyMore() {
        Huffboard board = Boards.of(6, "m13 M2");
        board.bar(13, 10);
        board.bar(13, 11);
        Check.same("how many were", 2, board.unbar());
        Check.same("one is drawn", 1, board.draw(0, 1));
        Check.same("none is left", 0, board.unbar());
    }

    /** "Draws an opening from the position as it is." "Returns how many were played." */
    static void promise42DrawsAnOpening() {
        Huffboard board = new Huffboard();
        board.fill(2);
        Check.same("how many", 3, board.draw(4711, 3));
        Check.same("played", 3, board.played());
        Check.same("who moves", 1, board.side());
        Check.same("from there on", 2, board.draw(4711, 2));
        Check.same("played then", 5, board.played());
        Check.same("up to its end", 3, Boards.of(6, "m13 M4").draw(3, 6));
    }

    /** "Puts a claim into the book. value: w, l or d Returns how many there are." */
    static void promise43PutsAClaimIntoTheBook() {
        Huffboard board = Boards.of(4, "m7 M1");
        board.solve(2);
        Check.same("won", 1, board.claim('w'));
        Check.same("none is refuted", 0, board.refuted());
        Check.same("lost", 2, board.claim('l'));
        Check.same("that is refuted", 1, board.refuted());
        Check.same("drawn", 3, board.claim('d'));
        Check.same("that is refuted, too", 2, board.refuted());
    }

    /** "Returns how many claims are refuted. Returns how many, 0 without a table." */
    static void promise44HowManyAreRefuted() {
        Huffboard board = Boards.of(4, "m7 M1");
        board.claim('l');
        board.play(0);
        board.claim('l');
        board.back();
        board.claim('d');
        Check.same("without a table", 0, board.refuted());
        board.solve(2);
        Check.same("with one", 2, board.refuted());
    }

    /** "Returns from how many positions this one can have come by a move without a capture. Returns how many." */
    static void promise45FromHowManyPositions() {
        Check.same("a man in the middle", 2, turned(6, "", "m10").sources());
        Check.same("a king in the middle", 4, turned(6, "", "k10").sources());
        Check.same("a king on its last row, or a man", 4, turned(6, "", "k1").sources());
        Check.same("a man of the side 1", 2, Boards.of(6, "M7").sources());
        Check.same("none of the side that moves", 0, Boards.of(6, "m10 k13").sources());
        Check.same("none where one had to capture", 0, turned(6, "", "m10 m13 M11 M9 M6").sources());
    }

    /** "Returns the share of the pieces on the board that are kings." */
    static void promise46TheShareOfKings() {
        Check.same("a quarter", 0.25f, Boards.of(6, "k10 m13 m14 M4").crownShare());
        Check.same("of both sides", 0.75f, Boards.of(6, "k10 K13 K14 M4").crownShare());
    }

    /**
     * "Returns the mean number of moves behind each of the moves that there are, draws by the laws 9 and 10 behind them
     * aside." "Returns the sum divided by their number, both converted to double."
     */
    static void promise47TheMeanNumberOfMoves() {
        for (String pieces : new String[] {"m13 M6", "k10 m14 M1 M2", "k0 k15 K2 K17 M7", "m3 m4 M13"}) {
            Huffboard board = Boards.of(6, pieces);
            int sum = 0;
            int number = board.moves();
            for (int i = 0; i < number; i++) {
                board.play(i);
                sum += board.moves();
                board.back();
            }
            Check.same(pieces, (double) sum / (double) number, board.meanMoves());
            Check.same(pieces + ", law 9", (double) sum / (double) number, Boards.of(6, "9=1", pieces).meanMoves());
        }
    }

    /**
     * "Returns a sum over the position. Returns the side at first, then for each field, by rising numbers, 31 times
     * itself plus 0 for none, 1 m, 2 k, 3 M, 4 K."
     */
    static void promise48ASumOverThePosition() {
        long[] powers = {27512614111L, 887503681L, 28629151L, 923521L, 29791L, 961L, 31L, 1L};
        Huffboard board = Boards.of(4, "M2 m4 k5 K7");
        long due = 3 * powers[2] + powers[4] + 2 * powers[5] + 4 * powers[7];
        Check.same("the side 0", due, board.checksum());
        board.turn(1);
        Check.same("the side 1", due + 31 * powers[0], board.checksum());
        Check.same("nothing there", 0L, new Huffboard().checksum());
    }

    /**
     * "Returns whether all is sound: as many moves taken back as played make the position as it was set; each entry
     * of the table is what its moves tell; and the keys are those moves behind which the other side is lost by the
     * table, where it has all. Returns true if so."
     */
    static void promise49WhetherAllIsSound() {
        for (String laws : new String[] {"", "6=0", "7=1", "8=1", "0=1 1=1", "9=2 10=2"}) {
            Huffboard board = Boards.of(4, laws, "m7 M1 k6");
            Check.yes("without a table, laws " + laws, board.isSound());
            board.solve(3);
            Check.yes("with one, laws " + laws, board.isSound());
            board.draw(99, 3);
            Check.yes("in a game, laws " + laws, board.isSound());
        }
    }
}
