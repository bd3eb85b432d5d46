import java.math.BigInteger;

/** One test for each sentence that names a boundary case of the board, its laws and what stands on it. */
public final class BoardEdgesTest extends Edges {
    /** How many fields the boards of 4 to 8 rows have. */
    private static final int[] FIELDS = {8, 12, 18, 24, 32};
    /** The greatest value of each law. */
    private static final int[] HIGHEST = {1, 1, 2, 1, 1, 2, 1, 1, 1, 99, 5};

    public static void main(String[] args) {
        Check.all(BoardEdgesTest.class);
    }

    private static Huffboard ofRows(int rows) {
        return Boards.of(rows, "");
    }

    // Promise 1

    /** "Creates a hall with an empty board of 6 rows." */
    static void promise1ANewBoardHas6Rows() {
        Huffboard board = new Huffboard();
        Check.same("fields", 18, board.fields());
        Check.same("beside the first field of the second row", 6, board.beside(3, 3));
        Check.same("below the last row", -1, board.beside(17, 2));
    }

    /** "Creates a hall with an empty board of 6 rows." */
    static void promise1ANewBoardIsEmpty() {
        Huffboard board = new Huffboard();
        Check.same("pieces", "------------------", Boards.pieces(board));
        Check.same("men of the side 0", 0, board.pieces(0, false));
        Check.same("kings of the side 0", 0, board.pieces(0, true));
        Check.same("men of the side 1", 0, board.pieces(1, false));
        Check.same("kings of the side 1", 0, board.pieces(1, true));
    }

    /** "At first law 6 is 1, all others are 0." */
    static void promise1ANewBoardHasLaw6Alone() {
        Huffboard board = new Huffboard();
        for (int law = 0; law < HIGHEST.length; law++) {
            Check.same("law " + law, law == 6 ? 1 : 0, board.law(law, 0));
        }
    }

    /** "A game begins with a board that is set; the side 0 moves." */
    static void promise1ANewBoardHasNoGameYet() {
        Huffboard board = new Huffboard();
        Check.same("side", 0, board.side());
        Check.same("played", 0, board.played());
        Check.same("calm", 0, board.calm());
        Check.same("seen", 1, board.seen());
        Check.same("huffs", 0, board.huffs());
        Check.refuses("back", NONE, Huffboard::new, Huffboard::back);
        Check.refuses("why", NONE, Huffboard::new, Huffboard::why);
    }

    /** A new hall has no table, no claims and no barred moves. */
    static void promise1ANewBoardHasNoTableAndNoBook() {
        Huffboard board = new Huffboard();
        Check.refuses("value", STATE, Huffboard::new, Huffboard::value);
        Check.same("refuted", 0, board.refuted());
        Check.same("the first claim", 1, board.claim('w'));
        Check.same("barred", 0, board.unbar());
    }

    /** What is done on one board is nothing to another one. */
    static void promise1ANewBoardIsItsOwn() {
        String fresh = Boards.whole(new Huffboard());
        Boards.begun();
        Check.same("a new one beside one that was used", fresh, Boards.whole(new Huffboard()));
    }

    /** "An object is used for at most 512 calls": the last one of them is answered as the first one. */
    static void promise1ANewBoardAnswers512Calls() {
        Huffboard board = new Huffboard();
        board.board(4);
        board.put(7, 'm');
        board.put(1, 'M');
        board.solve(3);
        for (int calls = 4; calls < 508; calls += 3) {
            board.play(0);
            board.keys(6);
            board.back();
        }
        Check.same("the 509th", 2, board.moves());
        Check.same("the 510th", 0, board.played());
        Check.same("the 511th", 'w', board.value());
        Check.same("the 512th", 3, board.distance());
    }

    // Promise 2

    /** "size: 4 to 8" and "Returns how many fields it has." */
    static void promise2BoardTakes4To8Rows() {
        Huffboard board = new Huffboard();
        for (int rows = 4; rows <= 8; rows++) {
            Check.same("board " + rows, FIELDS[rows - 4], board.board(rows));
            Check.same("fields of " + rows, FIELDS[rows - 4], board.fields());
            Check.same("beside the last one of " + rows, -1, board.beside(FIELDS[rows - 4] - 1, 3));
        }
    }

    /** "Throws IllegalArgumentException if it is out of range". */
    static void promise2BoardRefuses3And9Rows() {
        for (int rows : new int[] {3, 9, 0, -4, LEAST, GREATEST}) {
            Check.refuses("set, " + rows, ARGUMENT, Boards::set, board -> board.board(rows));
            Check.refuses("begun, " + rows, ARGUMENT, Boards::begun, board -> board.board(rows));
        }
    }

    /** "Lays an empty board", also one of as many rows, also in place of a full one. */
    static void promise2BoardIsEmptyThen() {
        for (int rows = 4; rows <= 8; rows++) {
            Huffboard board = full(rows, 'k');
            board.board(rows);
            Check.same("kings of " + rows, 0, board.pieces(0, true));
            Check.same("checksum of " + rows, 0L, board.checksum());
        }
    }

    /** "a game ... gone". */
    static void promise2BoardTakesTheGameAway() {
        Huffboard board = Boards.begun();
        board.board(4);
        Check.same("played", 0, board.played());
        Check.same("seen", 1, board.seen());
        Check.same("huffs", 0, board.huffs());
        Check.same("back", "NoSuchElementException", Boards.answer(board::back));
        Check.same("laws can be changed", 0, board.law(6, 1));
    }

    /** "a game ... gone": the moves by kings in a row, too. */
    static void promise2BoardTakesTheCalmMovesAway() {
        Huffboard board = Boards.of(4, "k6 K1");
        board.play(0);
        board.board(4);
        Check.same("calm", 0, board.calm());
    }

    /** "a table ... gone". */
    static void promise2BoardTakesTheTableAway() {
        Huffboard board = Boards.set();
        board.board(4);
        Check.same("longest", "IllegalStateException", Boards.answer(board::longest));
    }

    /** "and a book are gone". */
    static void promise2BoardTakesTheBookAway() {
        Huffboard board = Boards.set();
        board.board(4);
        Boards.lay(board, "m7 M4 k1");
        board.solve(3);
        Check.same("refuted", 0, board.refuted());
        for (int i = 1; i <= 20; i++) {
            Check.same("a claim", i, board.claim('d'));
        }
        board.board(5);
        Check.same("the first one again", 1, board.claim('d'));
    }

    /** "laws ... stay". */
    static void promise2BoardLeavesTheLaws() {
        Huffboard board = new Huffboard();
        for (int law = 0; law < HIGHEST.length; law++) {
            board.law(law, HIGHEST[law]);
        }
        board.board(8);
        for (int law = 0; law < HIGHEST.length; law++) {
            Check.same("law " + law, HIGHEST[law], board.law(law, 0));
        }
        board.board(4);
        Check.same("law 6, being 0", 0, board.law(6, 1));
    }

    /** "and barred moves stay". */
    static void promise2BoardLeavesTheBarredMoves() {
        Huffboard board = new Huffboard();
        for (int i = 0; i < 10; i++) {
            board.bar(17, i);
        }
        board.board(4);
        board.board(6);
        Check.same("one that is barred", "UnsupportedOperationException", Boards.answer(() -> board.bar(17, 9)));
        Check.same("one more", "IllegalStateException", Boards.answer(() -> board.bar(17, 10)));
        Check.same("barred", 10, board.unbar());
    }

    /** "the side 0 moves first". */
    static void promise2BoardLetsTheSide0MoveFirst() {
        Huffboard board = new Huffboard();
        board.turn(1);
        board.board(6);
        Check.same("side", 0, board.side());
        Check.same("turn", 0, board.turn(1));
        Huffboard begun = Boards.begun();
        begun.board(4);
        Check.same("side, behind a game", 0, begun.side());
    }

    // Promise 3

    /** "Laws have numbers: 0 ... 10"; "Throws IndexOutOfBoundsException if there is no such law". */
    static void promise3LawHasNoLawBelow0AndAbove10() {
        for (int law : new int[] {-1, 11, LEAST, GREATEST}) {
            Check.refuses("law " + law, INDEX, Boards::set, board -> board.law(law, 0));
        }
        Check.same("law 0", 0, new Huffboard().law(0, 1));
        Check.same("law 10", 0, new Huffboard().law(10, 1));
    }

    /** "value: 0 or 1; for the laws 2 and 5 0 to 2, for 9 0 to 99, for 10 0 to 5"; "Returns the value before." */
    static void promise3LawTakesTheLeastAndTheGreatestValue() {
        for (int law = 0; law < HIGHEST.length; law++) {
            Huffboard board = new Huffboard();
            board.law(law, HIGHEST[law]);
            Check.same("the greatest of " + law, HIGHEST[law], board.law(law, 0));
            Check.same("the least of " + law, 0, board.law(law, 1));
            Check.same("one of " + law, 1, board.law(law, 1));
            Check.same("the same again of " + law, 1, board.law(law, 0));
        }
    }

    /** "Throws IllegalArgumentException if the value is out of range". */
    static void promise3LawRefusesTheFirstValuesBeyond() {
        for (int i = 0; i < HIGHEST.length; i++) {
            int law = i;
            for (int value : new int[] {-1, HIGHEST[law] + 1, LEAST, GREATEST}) {
                Check.refuses(law + " to " + value, ARGUMENT, Boards::set, board -> board.law(law, value));
            }
        }
    }

    /** "laws changed, only while no move is played": also none of the draws, and none to what it is. */
    static void promise3LawRefusesWhileAMoveIsPlayed() {
        for (int i = 0; i < HIGHEST.length; i++) {
            int law = i;
            Check.refuses("law " + law, UNSUPPORTED, Boards::begun, board -> board.law(law, 1));
            Check.refuses("law " + law + " to 0", UNSUPPORTED, Boards::begun, board -> board.law(law, 0));
        }
    }

    /** "or all are taken back". */
    static void promise3LawTakesAgainAsAllMovesAreTakenBack() {
        Huffboard board = Boards.of(6, "m13 M4");
        board.play(0);
        board.play(0);
        board.back();
        Check.same("one is played", "UnsupportedOperationException", Boards.answer(() -> board.law(0, 1)));
        board.back();
        Check.same("none is played", 0, board.law(0, 1));
        Check.same("it is set", 1, board.law(0, 0));
    }

    /** "If several exceptions apply, the one that is listed first is thrown." */
    static void promise3LawThrowsTheFirstOfSeveral() {
        Check.refuses("no law, no value", INDEX, Boards::set, board -> board.law(11, 100));
        Check.refuses("no law, played", INDEX, Boards::begun, board -> board.law(-1, 0));
        Check.refuses("no law, no value, played", INDEX, Boards::begun, board -> board.law(11, -1));
        Check.refuses("no value, played", ARGUMENT, Boards::begun, board -> board.law(0, 2));
    }

    // Promise 4

    /** "Throws IndexOutOfBoundsException if there is no such field": the first and the last one, and those beyond. */
    static void promise4PutTakesTheFirstAndTheLastField() {
        for (int i = 4; i <= 8; i++) {
            int rows = i;
            int fields = FIELDS[rows - 4];
            Huffboard board = ofRows(rows);
            Check.same("the first of " + rows, '-', board.put(0, 'k'));
            Check.same("the last of " + rows, '-', board.put(fields - 1, 'K'));
            Check.same("both of " + rows, "k" + "-".repeat(fields - 2) + "K", Boards.pieces(board));
            for (int field : new int[] {-1, fields, LEAST, GREATEST}) {
                Check.refuses(field + " of " + rows, INDEX, () -> ofRows(rows), one -> one.put(field, 'k'));
            }
        }
    }

    /** "piece: m, k a man, king of the side 0, M, K of the side 1, - for none"; "Returns what was there." */
    static void promise4PutTakesFivePiecesInPlaceOfEachOther() {
        for (char first : "mkMK-".toCharArray()) {
            for (char second : "mkMK-".toCharArray()) {
                Huffboard board = new Huffboard();
                Check.same(first + " on an empty field", '-', board.put(7, first));
                Check.same(second + " in place of " + first, first, board.put(7, second));
                Check.same(second + " is there", second, board.at(7));
                Check.same("how many", second == '-' ? 0 : 1, allPieces(board));
            }
        }
    }

    private static int allPieces(Huffboard board) {
        return board.pieces(0, false) + board.pieces(0, true) + board.pieces(1, false) + board.pieces(1, true);
    }

    /** "Throws IllegalArgumentException if there is no such piece". */
    static void promise4PutRefusesAllOtherSigns() {
        Huffboard board = new Huffboard();
        for (char sign = 0; sign < 400; sign++) {
            char piece = sign;
            boolean isPiece = "mkMK-".indexOf(piece) >= 0;
            Object due = isPiece ? '-' : "IllegalArgumentException";
            Check.same("sign " + (int) piece, due, Boards.answer(() -> board.put(7, piece)));
            if (isPiece) {
                board.put(7, '-');
            }
        }
        Check.refuses("the last sign", ARGUMENT, Boards::set, one -> one.put(5, (char) 65535));
        Check.refuses("m and a multiple of 256", ARGUMENT, Boards::set, one -> one.put(5, (char) ('m' + 256)));
    }

    /** "A man cannot be put on its last row." */
    static void promise4PutRefusesAManOnItsLastRow() {
        for (int i = 4; i <= 8; i++) {
            int rows = i;
            int last = FIELDS[rows - 4] - 1;
            for (int k = 0; k < rows / 2; k++) {
                int above = k;
                int below = last - k;
                Check.refuses("m on " + above + " of " + rows, ARGUMENT, () -> ofRows(rows),
                    one -> one.put(above, 'm'));
                Check.refuses("M on " + below + " of " + rows, ARGUMENT, () -> ofRows(rows),
                    one -> one.put(below, 'M'));
                Huffboard board = ofRows(rows);
                Check.same("M on " + above + " of " + rows, '-', board.put(above, 'M'));
                Check.same("m on " + below + " of " + rows, '-', board.put(below, 'm'));
            }
            Huffboard board = ofRows(rows);
            Check.same("m on the row before its last one of " + rows, '-', board.put(rows / 2, 'm'));
            Check.same("M on the row before its last one of " + rows, '-', board.put(last - rows / 2, 'M'));
        }
    }

    /** A king stands on every field, its last row too. */
    static void promise4PutTakesKingsOnEveryField() {
        for (int rows = 4; rows <= 8; rows++) {
            Check.same("k on " + rows, FIELDS[rows - 4], full(rows, 'k').pieces(0, true));
            Check.same("K on " + rows, FIELDS[rows - 4], full(rows, 'K').pieces(1, true));
        }
    }

    /** "-" for none: also on the last row of either side, and on the full board until it is empty. */
    static void promise4PutTakesTheLastPieceOff() {
        Huffboard board = full(6, 'K');
        for (int field = 0; field < 18; field++) {
            Check.same("off " + field, 'K', board.put(field, '-'));
        }
        Check.same("empty", "------------------", Boards.pieces(board));
        Check.same("off again", '-', board.put(0, '-'));
    }

    /** "Pieces can be put and taken ... only while no move is played, or all are taken back." */
    static void promise4PutRefusesWhileAMoveIsPlayed() {
        Check.refuses("put", UNSUPPORTED, Boards::begun, board -> board.put(0, 'k'));
        Check.refuses("taken", UNSUPPORTED, Boards::begun, board -> board.put(4, '-'));
        Check.refuses("the same", UNSUPPORTED, Boards::begun, board -> board.put(4, 'M'));
        Huffboard board = Boards.begun();
        board.back();
        Check.same("all are taken back", '-', board.put(0, 'k'));
        Check.same("it is there", 'k', board.at(0));
    }

    /** "If several exceptions apply, the one that is listed first is thrown." */
    static void promise4PutThrowsTheFirstOfSeveral() {
        Check.refuses("no field, no piece", INDEX, Boards::set, board -> board.put(8, 'x'));
        Check.refuses("no field, played", INDEX, Boards::begun, board -> board.put(-1, 'k'));
        Check.refuses("no field, no piece, played", INDEX, Boards::begun, board -> board.put(8, 'x'));
        Check.refuses("no piece, played", ARGUMENT, Boards::begun, board -> board.put(0, 'x'));
        Check.refuses("m on its last row, played", ARGUMENT, Boards::begun, board -> board.put(0, 'm'));
        Check.refuses("M on its last row, played", ARGUMENT, Boards::begun, board -> board.put(7, 'M'));
    }

    // Promise 5

    /** "how many rows each, 0 to 1 less than half of the rows, cut". */
    static void promise5FillTakesNoRowsToAlmostHalf() {
        int[] most = {1, 1, 2, 2, 3};
        int[] due = {4, 4, 12, 14, 24};
        for (int i = 4; i <= 8; i++) {
            int rows = i;
            int beyond = most[rows - 4] + 1;
            Huffboard board = ofRows(rows);
            Check.same("the most of " + rows, due[rows - 4], board.fill(beyond - 1));
            Check.same("none of " + rows, 0, board.fill(0));
            for (int wrong : new int[] {-1, beyond, LEAST, GREATEST}) {
                Check.refuses(wrong + " of " + rows, ARGUMENT, () -> someKings(rows), one -> one.fill(wrong));
            }
        }
    }

    private static Huffboard someKings(int rows) {
        Huffboard board = Boards.of(rows, "k2 K5 M1");
        board.turn(1);
        return board;
    }

    /** "Takes all pieces off": those on other rows, and all of them if no rows are told. */
    static void promise5FillTakesAllPiecesOff() {
        for (int rows = 4; rows <= 8; rows++) {
            Huffboard board = full(rows, 'K');
            Check.same("none of " + rows, 0, board.fill(0));
            Check.same("none stands of " + rows, 0, allPieces(board));
            board = full(rows, 'k');
            int due = board.fill(1);
            Check.same("as many as it returns of " + rows, due, allPieces(board));
            Check.same("no kings of " + rows, 0, board.pieces(0, true));
        }
    }

    /** "puts men of the side 1 on all fields of the first rows, those of the side 0 on those of the last rows". */
    static void promise5FillPutsMenOnAllFieldsOfTheRows() {
        String[] due = {"MM----mm", "MM--------mm", "MMM------------mmm", "MMM------------------mmm",
            "MMMM------------------------mmmm"};
        for (int rows = 4; rows <= 8; rows++) {
            Huffboard board = ofRows(rows);
            board.fill(1);
            Check.same("one row of " + rows, due[rows - 4], Boards.pieces(board));
        }
        Huffboard seven = ofRows(7);
        seven.fill(2);
        Check.same("two rows of 7", "MMMMMMM----------mmmmmmm", Boards.pieces(seven));
        Huffboard eight = ofRows(8);
        eight.fill(3);
        Check.same("three rows of 8", "MMMMMMMMMMMM--------mmmmmmmmmmmm", Boards.pieces(eight));
    }

    /** "who moves first stays". */
    static void promise5FillLeavesWhoMovesFirst() {
        Huffboard board = new Huffboard();
        board.fill(2);
        Check.same("the side 0", 0, board.side());
        board.turn(1);
        board.fill(1);
        Check.same("the side 1", 1, board.side());
        board.fill(0);
        Check.same("the side 1, behind none", 1, board.turn(0));
    }

    /** "Throws UnsupportedOperationException if a move is played". */
    static void promise5FillRefusesWhileAMoveIsPlayed() {
        Check.refuses("one row", UNSUPPORTED, Boards::begun, board -> board.fill(1));
        Check.refuses("no row", UNSUPPORTED, Boards::begun, board -> board.fill(0));
        Check.refuses("out of range, too", ARGUMENT, Boards::begun, board -> board.fill(2));
        Huffboard board = Boards.begun();
        board.back();
        Check.same("all are taken back", 4, board.fill(1));
    }

    /** What fills the board leaves laws, table, book and barred moves. */
    static void promise5FillLeavesAllElse() {
        Huffboard board = Boards.set();
        int longest = board.longest();
        board.fill(1);
        Check.same("the table", longest, board.longest());
        Check.same("the book", 3, board.claim('d'));
        Check.same("the barred moves", 2, board.unbar());
        Check.same("law 9", 50, board.law(9, 0));
    }

    // Promise 6

    /** "side: the side"; "Returns the one before." */
    static void promise6TurnTakes0And1() {
        Huffboard board = new Huffboard();
        Check.same("0 before 0", 0, board.turn(0));
        Check.same("0 before 1", 0, board.turn(1));
        Check.same("1 before 1", 1, board.turn(1));
        Check.same("side", 1, board.side());
        Check.same("1 before 0", 1, board.turn(0));
        Check.same("side again", 0, board.side());
    }

    /** "Throws IllegalArgumentException if there is no such side". */
    static void promise6TurnRefusesMinus1And2() {
        for (int side : new int[] {-1, 2, LEAST, GREATEST}) {
            Check.refuses("side " + side, ARGUMENT, Boards::set, board -> board.turn(side));
            Check.refuses("played, side " + side, ARGUMENT, Boards::begun, board -> board.turn(side));
        }
    }

    /** "Throws UnsupportedOperationException if a move is played". */
    static void promise6TurnRefusesWhileAMoveIsPlayed() {
        Check.refuses("the side 0", UNSUPPORTED, Boards::begun, board -> board.turn(0));
        Check.refuses("the side 1", UNSUPPORTED, Boards::begun, board -> board.turn(1));
        Huffboard board = Boards.begun();
        board.back();
        Check.same("all are taken back", 0, board.turn(1));
        Check.same("it moves then", 1, board.side());
    }

    // Promises 7 to 11

    /** "Returns how many fields there are": from 4 rows to 8. */
    static void promise7FieldsOfTheLeastAndTheGreatestBoard() {
        Check.same("4 rows", 8, ofRows(4).fields());
        Check.same("5 rows", 12, ofRows(5).fields());
        Check.same("7 rows", 24, ofRows(7).fields());
        Check.same("8 rows", 32, ofRows(8).fields());
        Check.same("at first", 18, new Huffboard().fields());
    }

    /** "Throws IndexOutOfBoundsException if there is no such field". */
    static void promise8AtHasNoFieldBelow0AndBeyondTheLast() {
        for (int i = 4; i <= 8; i++) {
            int rows = i;
            int fields = FIELDS[rows - 4];
            Huffboard board = ofRows(rows);
            board.put(0, 'K');
            board.put(fields - 1, 'k');
            Check.same("the first of " + rows, 'K', board.at(0));
            Check.same("the last of " + rows, 'k', board.at(fields - 1));
            for (int field : new int[] {-1, fields, LEAST, GREATEST}) {
                Check.refuses(field + " of " + rows, INDEX, () -> ofRows(rows), one -> one.at(field));
            }
        }
    }

    /** "Returns m, k, M, K or -." */
    static void promise8AtTellsEachPiece() {
        Huffboard board = Boards.of(6, "m3 k0 M14 K17");
        Check.same("all", "k--m----------M--K", Boards.pieces(board));
    }

    /** "Returns how many pieces a side has": none of the empty board, all of the full one. */
    static void promise9PiecesOfTheEmptyAndTheFullBoard() {
        for (char piece : "kK".toCharArray()) {
            Huffboard board = full(8, piece);
            Check.same(piece + ", kings of 0", piece == 'k' ? 32 : 0, board.pieces(0, true));
            Check.same(piece + ", kings of 1", piece == 'K' ? 32 : 0, board.pieces(1, true));
            Check.same(piece + ", men of 0", 0, board.pieces(0, false));
            Check.same(piece + ", men of 1", 0, board.pieces(1, false));
        }
        Huffboard board = Boards.of(4, "M0 k1 M2 K3 m4 m5 m6 k7");
        Check.same("men of 0", 3, board.pieces(0, false));
        Check.same("kings of 0", 2, board.pieces(0, true));
        Check.same("men of 1", 2, board.pieces(1, false));
        Check.same("kings of 1", 1, board.pieces(1, true));
    }

    /** "Throws IllegalArgumentException if there is no such side". */
    static void promise9PiecesRefusesMinus1And2() {
        for (int side : new int[] {-1, 2, LEAST, GREATEST}) {
            Check.refuses("kings of " + side, ARGUMENT, Boards::set, board -> board.pieces(side, true));
            Check.refuses("men of " + side, ARGUMENT, Boards::begun, board -> board.pieces(side, false));
        }
    }

    /** "Returns which side moves": also of one that cannot, also behind the last move. */
    static void promise10SideAlsoAsTheGameIsOver() {
        Huffboard board = Boards.of(6, "m13 M10");
        Check.same("first", 0, board.side());
        board.play(0);
        Check.same("over", '0', board.state());
        Check.same("behind the last move", 1, board.side());
        Check.same("nobody is there", 0, new Huffboard().side());
    }

    /** "Throws IndexOutOfBoundsException if there is no such field"; "IllegalArgumentException ... no such way". */
    static void promise11BesideHas4Ways() {
        for (int way : new int[] {-1, 4, LEAST, GREATEST}) {
            Check.refuses("way " + way, ARGUMENT, Boards::set, board -> board.beside(0, way));
            Check.refuses("way " + way + ", no field", INDEX, Boards::set, board -> board.beside(8, way));
        }
        for (int i = 4; i <= 8; i++) {
            int rows = i;
            for (int field : new int[] {-1, FIELDS[rows - 4], LEAST, GREATEST}) {
                Check.refuses(field + " of " + rows, INDEX, () -> ofRows(rows), board -> board.beside(field, 0));
                Check.refuses(field + " of " + rows, INDEX, () -> ofRows(rows), board -> board.beside(field, 3));
            }
        }
    }

    /** "Returns the field, -1 for none": by rows and columns, on every board. */
    static void promise11BesideIsMinus1BeyondTheEdges() {
        for (int rows = 4; rows <= 8; rows++) {
            Huffboard board = ofRows(rows);
            for (int field = 0; field < board.fields(); field++) {
                StringBuilder due = new StringBuilder();
                StringBuilder got = new StringBuilder();
                for (int way = 0; way < 4; way++) {
                    due.append(' ').append(besideByRows(rows, field, way));
                    got.append(' ').append(board.beside(field, way));
                }
                Check.same("round " + field + " of " + rows, due.toString(), got.toString());
            }
        }
    }

    private static int besideByRows(int rows, int field, int way) {
        int number = 0;
        int[][] numbers = new int[rows + 2][rows + 2];
        int ofRow = 0;
        int ofColumn = 0;
        for (int[] row : numbers) {
            java.util.Arrays.fill(row, -1);
        }
        for (int row = 0; row < rows; row++) {
            for (int column = 0; column < rows; column++) {
                if ((row + column) % 2 == 1) {
                    ofRow = number == field ? row + 1 : ofRow;
                    ofColumn = number == field ? column + 1 : ofColumn;
                    numbers[row + 1][column + 1] = number;
                    number++;
                }
            }
        }
        int[] rowWays = {-1, -1, 1, 1};
        int[] columnWays = {-1, 1, -1, 1};
        return numbers[ofRow + rowWays[way]][ofColumn + columnWays[way]];
    }

    // Promises 46 and 48

    /** "Throws ArithmeticException if there are none". */
    static void promise46CrownShareOfNoPieces() {
        for (int i = 4; i <= 8; i++) {
            int rows = i;
            Check.refuses("none of " + rows, ARITHMETIC, () -> ofRows(rows), Huffboard::crownShare);
        }
        Huffboard board = Boards.of(6, "m13");
        board.put(13, '-');
        Check.same("taken off", "ArithmeticException", Boards.answer(board::crownShare));
    }

    /** "Returns their number divided by that of all, both converted to float." */
    static void promise46CrownShareFromNoneToAll() {
        Check.same("one man", 0.0f, Boards.of(6, "m13").crownShare());
        Check.same("one king", 1.0f, Boards.of(6, "K13").crownShare());
        Check.same("the full board", 1.0f, full(8, 'k').crownShare());
        Check.same("a third", 1.0f / 3.0f, Boards.of(6, "m13 M4 k0").crownShare());
        Check.same("two thirds of both sides", 2.0f / 3.0f, Boards.of(6, "m13 K4 k0").crownShare());
        Huffboard board = full(8, 'k');
        board.put(31, 'm');
        Check.same("all but one", 31.0f / 32.0f, board.crownShare());
    }

    /** "Returns the side at first, then for each field ... 31 times itself plus 0 for none, 1 m, 2 k, 3 M, 4 K." */
    static void promise48ChecksumOfTheEmptyBoard() {
        Huffboard board = ofRows(4);
        Check.same("the side 0", 0L, board.checksum());
        board.turn(1);
        Check.same("the side 1", 31L * 31 * 31 * 31 * 31 * 31 * 31 * 31, board.checksum());
    }

    /** "by rising numbers": the last field counts itself, the first one most. */
    static void promise48ChecksumOfTheFirstAndTheLastField() {
        String pieces = "-mkMK";
        for (int i = 0; i < pieces.length(); i++) {
            Huffboard board = ofRows(6);
            board.put(12, pieces.charAt(i));
            Check.same("last but five: " + pieces.charAt(i), i * 28629151L, board.checksum());
        }
        Check.same("the last field", 2L, Boards.of(4, "k7").checksum());
        Check.same("the first field", 4L * 27512614111L, Boards.of(4, "K0").checksum());
    }

    /** 31 times itself goes beyond a long on the greatest board, and wraps around. */
    static void promise48ChecksumWrapsAround() {
        for (int rows = 6; rows <= 8; rows++) {
            Huffboard board = full(rows, 'K');
            board.turn(1);
            BigInteger sum = BigInteger.ONE;
            for (int field = 0; field < board.fields(); field++) {
                sum = sum.multiply(BigInteger.valueOf(31)).add(BigInteger.valueOf(4));
            }
            Check.yes("beyond a long, " + rows, sum.bitLength() > 63);
            Check.same("wraps around, " + rows, sum.longValue(), board.checksum());
        }
    }
}
