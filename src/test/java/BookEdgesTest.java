import java.math.BigInteger;

/** One test for each sentence that names a boundary case of barred moves, openings, claims and sources. */
public final class BookEdgesTest extends Edges {
    /** How many moves can be barred, and claims be made. */
    private static final int MOST_BARRED = 10;
    private static final int MOST_CLAIMS = 20;

    public static void main(String[] args) {
        Check.all(BookEdgesTest.class);
    }

    // Promises 40 and 41

    private static Huffboard barred(int number) {
        Huffboard board = new Huffboard();
        for (int i = 0; i < number; i++) {
            board.bar(17, i);
        }
        return board;
    }

    /** "Throws IndexOutOfBoundsException if there is no such field, for either". */
    static void promise40BarTakesTheFieldsThatThereAre() {
        for (int field : new int[] {-1, 8, LEAST, GREATEST}) {
            Check.refuses("from " + field, INDEX, Boards::set, board -> board.bar(field, 0));
            Check.refuses("to " + field, INDEX, Boards::set, board -> board.bar(0, field));
            Check.refuses("both " + field, INDEX, Boards::begun, board -> board.bar(field, field));
        }
        Huffboard board = Boards.of(8, "");
        Check.same("the last fields", 1, board.bar(31, 31));
        Check.same("the first fields", 2, board.bar(0, 0));
        Check.same("from the first to the last one", 3, board.bar(0, 31));
        Check.same("and back", 4, board.bar(31, 0));
    }

    /** "Throws UnsupportedOperationException if it is barred": just this one, not the way back. */
    static void promise40BarTakesNoneTwice() {
        Check.refuses("barred", UNSUPPORTED, Boards::set, board -> board.bar(7, 5));
        Check.refuses("the second one", UNSUPPORTED, Boards::set, board -> board.bar(0, 1));
        Huffboard board = Boards.set();
        Check.same("the way back", 3, board.bar(5, 7));
        Check.same("from the same field", 4, board.bar(7, 4));
        Check.same("to the same field", 5, board.bar(6, 5));
        board.unbar();
        Check.same("not barred any more", 1, board.bar(7, 5));
    }

    /** "at most 10"; "Throws IllegalStateException if there are 10". */
    static void promise40BarTakes10() {
        Huffboard board = new Huffboard();
        for (int number = 1; number <= MOST_BARRED; number++) {
            Check.same("number " + number, number, board.bar(17, number));
        }
        Check.refuses("one more", STATE, () -> barred(MOST_BARRED), one -> one.bar(0, 0));
        Check.same("how many were", MOST_BARRED, board.unbar());
        Check.same("room again", 1, board.bar(0, 0));
    }

    /** "If several exceptions apply, the one that is listed first is thrown." */
    static void promise40BarThrowsTheFirstOfSeveral() {
        Check.refuses("no field, 10 are barred", INDEX, () -> barred(MOST_BARRED), board -> board.bar(0, 18));
        Check.refuses("barred, 10 are barred", UNSUPPORTED, () -> barred(MOST_BARRED), board -> board.bar(17, 9));
        Check.refuses("the first one, 10 are", UNSUPPORTED, () -> barred(MOST_BARRED), board -> board.bar(17, 0));
        Check.refuses("barred as the board was greater", INDEX, () -> {
            Huffboard board = barred(1);
            board.board(4);
            return board;
        }, board -> board.bar(17, 0));
    }

    /** "Returns how many were": none to 10; then none is. */
    static void promise41UnbarFromNoneTo10() {
        for (int number = 0; number <= MOST_BARRED; number++) {
            Huffboard board = barred(number);
            Check.same("how many of " + number, number, board.unbar());
            Check.same("none then of " + number, 0, board.unbar());
        }
    }

    // Promise 42

    private static Huffboard filled() {
        Huffboard board = new Huffboard();
        board.fill(2);
        return board;
    }

    /** "seed: the seed, 0 to 99999"; "Throws IllegalArgumentException if a number is out of range". */
    static void promise42DrawTakesSeedsFrom0To99999() {
        for (int seed : new int[] {-1, 100000, LEAST, GREATEST}) {
            Check.refuses("seed " + seed, ARGUMENT, BookEdgesTest::filled, board -> board.draw(seed, 1));
            Check.refuses("seed " + seed + ", no moves", ARGUMENT, BookEdgesTest::filled, board -> board.draw(seed, 0));
        }
        Check.same("the least", 1, filled().draw(0, 1));
        Check.same("the greatest", 1, filled().draw(99999, 1));
    }

    /** "moves: how many moves, 0 to 6". */
    static void promise42DrawTakes0To6Moves() {
        for (int moves : new int[] {-1, 7, LEAST, GREATEST}) {
            Check.refuses("moves " + moves, ARGUMENT, BookEdgesTest::filled, board -> board.draw(1, moves));
        }
        for (int moves = 0; moves <= 6; moves++) {
            Huffboard board = filled();
            Check.same("moves " + moves, moves, board.draw(1, moves));
            Check.same("played " + moves, moves, board.played());
        }
    }

    /** "Throws IllegalStateException if the moves kept and those told would be more than 120". */
    static void promise42DrawKeeps120() {
        for (int moves = 1; moves <= 6; moves++) {
            int told = moves;
            Huffboard board = Boards.toAndFro("", MOST_KEPT - moves);
            Check.same("up to the last one, " + moves, moves, board.draw(1, moves));
            Check.same("kept " + moves, MOST_KEPT, board.played());
            Check.refuses("one more, " + moves, STATE, () -> Boards.toAndFro("", MOST_KEPT - told + 1),
                one -> one.draw(1, told));
        }
        Check.same("none, 120 are kept", 0, kept120().draw(1, 0));
        Check.refuses("those told, as the game is over", STATE, Edges::drawnAt120, board -> board.draw(1, 1));
    }

    /** "If several exceptions apply, the one that is listed first is thrown." */
    static void promise42DrawThrowsTheFirstOfSeveral() {
        for (int wrong : new int[] {-1, 7}) {
            Check.refuses(wrong + " moves, 120 kept", ARGUMENT, Edges::kept120,
                board -> board.draw(1, wrong));
        }
        Check.refuses("seed -1, 120 kept", ARGUMENT, Edges::kept120, board -> board.draw(-1, 1));
    }

    /** "becomes z times 1103515245, plus 12345, modulo 2147483648; z divided by 65536, cut, modulo how many". */
    static void promise42DrawGoesByTheLots() {
        for (int seed : new int[] {0, 1, 65535, 65536, 99998, 99999}) {
            Huffboard board = filled();
            Huffboard other = filled();
            board.draw(seed, 6);
            BigInteger z = BigInteger.valueOf(seed);
            for (int i = 0; i < 6; i++) {
                z = z.multiply(BigInteger.valueOf(1103515245)).add(BigInteger.valueOf(12345));
                z = z.mod(BigInteger.valueOf(2147483648L));
                other.play(z.divide(BigInteger.valueOf(65536)).mod(BigInteger.valueOf(other.moves())).intValue());
            }
            Check.same("seed " + seed, other.checksum(), board.checksum());
        }
    }

    /** "modulo how many moves are not barred is the place of the move among these": from all but one to one. */
    static void promise42DrawAmongThoseThatAreNotBarred() {
        for (int open = 4; open >= 1; open--) {
            for (int seed = 0; seed < 12; seed++) {
                Huffboard board = filled();
                Huffboard other = filled();
                for (int move = 0; move < 5 - open; move++) {
                    board.bar(board.from(move), board.to(move));
                }
                long z = (seed * 1103515245L + 12345) % 2147483648L;
                other.play(5 - open + (int) (z / 65536 % open));
                board.draw(seed, 1);
                Check.same(open + " open, seed " + seed, other.checksum(), board.checksum());
            }
        }
    }

    /** "it ends earlier if there is none": all that are told are barred, of the side that moves. */
    static void promise42DrawEndsAsAllAreBarred() {
        Huffboard board = Boards.of(6, "m13 M2");
        board.bar(13, 10);
        board.bar(13, 11);
        Check.same("none at all", 0, board.draw(3, 6));
        Check.same("nothing moved", "--M----------m----", Boards.pieces(board));
        board.unbar();
        board.bar(2, 5);
        Check.same("none of the other side", 1, board.draw(3, 6));
        Check.same("a barred move can be played", 'p', board.move(2, 5));
    }

    /** "A barred move is told by two fields": then all moves between them are barred, and no others. */
    static void promise42DrawLeavesOutAllMovesBetweenTwoFields() {
        Huffboard two = Boards.of(6, "m16 M6 M7 M12 M13");
        two.bar(4, 16);
        Check.same("the way back is another one", 1, two.draw(1, 1));
        two.back();
        two.bar(16, 4);
        Check.same("both", 0, two.draw(1, 1));
    }

    /** "or the game is over": won, drawn, or over from the beginning. */
    static void promise42DrawEndsAsTheGameIsOver() {
        Check.same("nothing there", 0, new Huffboard().draw(5, 6));
        Check.same("won behind one", 1, Boards.of(6, "m13 M10").draw(5, 6));
        Check.same("by law 8 behind one", 1, Boards.of(6, "8=1", "m3 M5").draw(5, 6));
        Check.same("drawn behind two", 2, Boards.of(6, "9=2", "k15 K2").draw(5, 6));
        Check.same("drawn already", 0, Boards.of(6, "10=1", "k15 K2").draw(5, 6));
    }

    /** Those that are played are played as by play: kept, and taken back one by one. */
    static void promise42DrawIsTakenBackMoveByMove() {
        Huffboard board = filled();
        board.draw(99999, 6);
        for (int left = 5; left >= 0; left--) {
            Check.same("left", left, board.back());
        }
        Check.same("as it was", Boards.whole(filled()), Boards.whole(board));
    }

    // Promises 43 and 44

    /** "value: w, l or d"; "Throws IllegalArgumentException if there is no such value". */
    static void promise43ClaimTakesWLAndD() {
        Huffboard board = new Huffboard();
        int claims = 0;
        for (char sign = 0; sign < 300; sign++) {
            char value = sign;
            boolean isTaken = "wld".indexOf(value) >= 0;
            claims += isTaken ? 1 : 0;
            Object due = isTaken ? claims : "IllegalArgumentException";
            Check.same("sign " + (int) value, due, Boards.answer(() -> board.claim(value)));
        }
        Check.refuses("a great letter", ARGUMENT, Boards::set, one -> one.claim('W'));
        Check.refuses("w and a multiple of 256", ARGUMENT, Boards::set, one -> one.claim((char) ('w' + 256)));
    }

    private static Huffboard claimed(int number) {
        Huffboard board = Boards.of(4, "m7 M1");
        for (int i = 0; i < number; i++) {
            board.claim('d');
        }
        return board;
    }

    /** "A book has at most 20 claims"; "Throws IllegalStateException if there are 20". */
    static void promise43ClaimTakes20() {
        Huffboard board = Boards.of(4, "m7 M1");
        for (int number = 1; number <= MOST_CLAIMS; number++) {
            Check.same("number " + number, number, board.claim('d'));
        }
        Check.refuses("one more", STATE, () -> claimed(MOST_CLAIMS), one -> one.claim('d'));
        Check.same("19 and one", MOST_CLAIMS, claimed(MOST_CLAIMS - 1).claim('w'));
    }

    /** "If several exceptions apply, the one that is listed first is thrown." */
    static void promise43ClaimThrowsTheFirstOfSeveral() {
        Check.refuses("no value, 20 claims", ARGUMENT, () -> claimed(MOST_CLAIMS), board -> board.claim('x'));
    }

    /** "Returns how many, 0 without a table." */
    static void promise44RefutedWithoutATable() {
        Check.same("no claims", 0, new Huffboard().refuted());
        Huffboard board = claimed(MOST_CLAIMS);
        Check.same("20 claims", 0, board.refuted());
        board.solve(2);
        Check.same("with one", MOST_CLAIMS, board.refuted());
        board.law(0, 1);
        Check.same("it is gone", 0, board.refuted());
        board.solve(2);
        Check.same("with another one", MOST_CLAIMS, board.refuted());
    }

    /** "if the table has its position": not one with no pieces, or with more than it has. */
    static void promise44RefutedOfPositionsInTheTableAlone() {
        Huffboard board = Boards.of(4, "");
        board.claim('d');
        Boards.lay(board, "k6");
        board.claim('d');
        Boards.lay(board, "m7");
        board.claim('d');
        Boards.lay(board, "k4");
        board.claim('d');
        Boards.lay(board, "k5");
        board.claim('d');
        for (int most = 1; most <= 3; most++) {
            board.solve(most);
            Check.same("table of " + most, most, board.refuted());
        }
    }

    /** "with another result": each of the three against each of the three. */
    static void promise44RefutedByAnotherResult() {
        String[] pieces = {"m7 M1", "M1", "k7 K0"};
        for (int i = 0; i < 3; i++) {
            for (int k = 0; k < 3; k++) {
                Huffboard board = Boards.of(4, pieces[i]);
                board.claim("wld".charAt(k));
                board.solve(2);
                Check.same("wld".charAt(k) + " for " + "wld".charAt(i), i == k ? 0 : 1, board.refuted());
            }
        }
    }

    /** "each of the position as it is, with who moves": as it was as the claim was made. */
    static void promise44RefutedForThePositionsOfTheClaims() {
        Huffboard board = Boards.of(4, "k6");
        board.claim('l');
        board.turn(1);
        board.claim('l');
        board.fill(0);
        Boards.lay(board, "M1 M2");
        board.claim('l');
        board.turn(0);
        board.claim('l');
        board.fill(0);
        board.solve(2);
        Check.same("two of four", 2, board.refuted());
        Check.same("the board stays", 0L, board.checksum());
        Boards.lay(board, "k7 K0");
        Check.same("on another position", 2, board.refuted());
        board.play(0);
        Check.same("in a game", 2, board.refuted());
        Check.same("who moves", 1, board.side());
    }

    /** A claim in a game is of the position then, not of the one that was set. */
    static void promise44RefutedForAClaimInAGame() {
        Huffboard board = Boards.of(4, "k6");
        board.play(0);
        board.claim('l');
        board.back();
        board.solve(1);
        Check.same("lost behind the move", 0, board.refuted());
        board.claim('l');
        Check.same("not lost ahead of it", 1, board.refuted());
    }

    /** The book is gone as the board is laid: none of its claims counts any more. */
    static void promise44RefutedIsNoneOnANewBoard() {
        for (char value : "wld".toCharArray()) {
            Huffboard board = Boards.of(4, "m7 M1");
            board.claim(value);
            board.claim(value);
            board.board(4);
            board.solve(2);
            Check.same("none of " + value, 0, board.refuted());
            Boards.lay(board, "m7 M1");
            board.claim('w');
            Check.same("none but the new one of " + value, 0, board.refuted());
        }
    }

    // Promise 45

    private static int sources(int rows, String laws, String pieces, int side) {
        Huffboard board = Boards.of(rows, laws, pieces);
        board.turn(side);
        int sources = board.sources();
        Check.same("the side stays, " + pieces, side, board.side());
        return sources;
    }

    /** The empty and the full board: no piece can go back, no field is empty. */
    static void promise45SourcesOfTheEmptyAndTheFullBoard() {
        for (int rows = 4; rows <= 8; rows++) {
            Check.same("empty, side 0 of " + rows, 0, sources(rows, "", "", 0));
            Check.same("empty, side 1 of " + rows, 0, sources(rows, "", "", 1));
            Huffboard board = full(rows, 'K');
            Check.same("full, of " + rows, 0, board.sources());
            board.put(rows / 2, '-');
            Check.same("one field with two beside it is empty, of " + rows, 2, board.sources());
        }
    }

    /** "a piece of the side that does not move now". */
    static void promise45SourcesOfTheSideThatDoesNotMove() {
        Check.same("a man of 1", 2, sources(6, "", "M7", 0));
        Check.same("a man of 1 that moves now", 0, sources(6, "", "M7", 1));
        Check.same("a man of 0", 2, sources(6, "", "m7", 1));
        Check.same("a man of 0 that moves now", 0, sources(6, "", "m7", 0));
    }

    /** "as a man by one field": back, to an empty one, on no board beyond the edge. */
    static void promise45SourcesOfAManByOneField() {
        Check.same("law 1 is for kings", 2, sources(6, "1=1", "M7", 0));
        Check.same("at the edge", 1, sources(6, "", "M9", 0));
        Check.same("on its first row", 0, sources(6, "", "M1", 0));
        Check.same("on its first row, the side 0", 0, sources(6, "", "m16", 1));
        Check.same("one field is taken", 1, sources(6, "", "M7 m4", 0));
        Check.same("one field is taken by its own", 3, sources(6, "", "M7 M4", 0));
        Check.same("not ahead", 2, sources(6, "6=0", "M7 m10", 0));
    }

    /** "as a king that way or like a king": any way, and if it flies over any number of empty fields. */
    static void promise45SourcesOfAKingAnyWay() {
        Check.same("in the middle", 4, sources(6, "", "K7", 0));
        Check.same("of the side 0", 4, sources(6, "", "k7", 1));
        Check.same("in a corner", 1, sources(6, "", "K2", 0));
        Check.same("on the row 0, the side 1", 2, sources(6, "", "K1", 0));
        Check.same("flying", 9, sources(6, "1=1", "K7", 0));
        Check.same("flying along the whole board", 7, sources(8, "1=1", "K3", 0));
        Check.same("flying, not over a piece", 6, sources(6, "1=1 6=0", "K7 k10", 0));
    }

    /** "also as a man that became a king just now": on its last row alone, by one field. */
    static void promise45SourcesOfAKingThatWasAMan() {
        Check.same("on its last row", 4, sources(6, "", "K16", 0));
        Check.same("in its corner", 2, sources(6, "", "K15", 0));
        Check.same("on the last row of the side 0", 4, sources(6, "", "k1", 1));
        Check.same("in the corner of the side 0", 2, sources(6, "", "k2", 1));
        Check.same("on the row ahead of it", 4, sources(6, "", "K13", 0));
        Check.same("flying, in its corner", 6, sources(6, "1=1", "K15", 0));
        Check.same("flying, on its last row", 7, sources(6, "1=1", "K16", 0));
        Check.same("one field is taken", 2, sources(6, "6=0", "K16 m12", 0));
    }

    /** "that move must be allowed there": none where one must capture, by any piece that was there. */
    static void promise45SourcesWhereTheMoveWasAllowed() {
        Check.same("another one must capture", 2, sources(6, "", "M4 m7 M8", 0));
        Check.same("law 6 is 0", 3, sources(6, "6=0", "M4 m7 M8", 0));
        Check.same("of the side 0", 2, sources(6, "", "m13 M10 m9", 1));
        Check.same("of the side 0, law 6 is 0", 3, sources(6, "6=0", "m13 M10 m9", 1));
        Check.same("it must capture itself", 1, sources(6, "", "M7 m6", 0));
        Check.same("it must capture itself, the side 0", 1, sources(6, "", "m10 M11", 1));
        Check.same("a king on the first field must", 1, sources(6, "", "K0 m4 M9", 0));
        Check.same("nobody can to a field that is taken", 4, sources(6, "4=1", "m7 M4 M0 m13", 1));
        Check.same("it must capture itself, as a king that flies", 4, sources(6, "1=1", "K7 k10", 0));
    }

    /** A man that became a king could not capture back as a king could, unless by law 0. */
    static void promise45SourcesWhereAKingHadToCapture() {
        Check.same("as a man alone", 2, sources(6, "", "K16 m10", 0));
        Check.same("as a man alone, of the side 0", 2, sources(6, "", "k1 M7", 1));
        Check.same("by law 0 not as a man, either", 0, sources(6, "0=1", "K16 m10", 0));
        Check.same("law 6 is 0", 4, sources(6, "6=0", "K16 m10", 0));
    }

    /** "that position must not be over by law 8, the side that moves now counting as one that moved last there". */
    static void promise45SourcesByLaw8() {
        Check.same("a king that moves now", 0, sources(6, "8=1", "M7 k15", 0));
        Check.same("law 8 is 0", 2, sources(6, "8=0", "M7 k15", 0));
        Check.same("a man that moves now", 2, sources(6, "8=1", "M7 m15", 0));
        Check.same("a king that moved", 4, sources(6, "8=1", "K7", 0));
        Check.same("a king that moves now, the side 1", 0, sources(6, "8=1", "m7 K15", 1));
    }

    /** It asks the position alone: also as the game is over, in a game, behind huffing. */
    static void promise45SourcesInEveryState() {
        Check.same("over", 2, sources(6, "", "M7", 0));
        Check.same("drawn", 2, sources(6, "10=1", "M7 m15", 0));
        Huffboard board = Boards.of(6, "M4 m13");
        board.play(0);
        Check.same("behind a move", 2, board.sources());
        Huffboard huffed = Boards.of(6, "6=0", "m13 M10 m17 K2");
        huffed.move(13, 11);
        Check.same("behind a move, too", 2, huffed.sources());
        huffed.huff(11);
        Check.same("behind huffing", 0, huffed.sources());
    }
}
