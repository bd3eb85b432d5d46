/** One test for each sentence that names a boundary case of a game: playing, huffing, taking back, how it ends. */
public final class GameEdgesTest extends Edges {
    public static void main(String[] args) {
        Check.all(GameEdgesTest.class);
    }

    // Promise 18

    /** "Throws IndexOutOfBoundsException if there is no such move". */
    static void promise18PlayTakesTheMovesThatThereAre() {
        int moves = Boards.set().moves();
        for (int move : new int[] {-1, moves, LEAST, GREATEST}) {
            Check.refuses("set, " + move, INDEX, Boards::set, board -> board.play(move));
            Check.refuses("nothing there, " + move, INDEX, Huffboard::new, board -> board.play(move));
        }
        for (int move = 0; move < moves; move++) {
            Huffboard board = Boards.set();
            int from = board.from(move);
            board.play(move);
            Check.same("what it left, " + move, '-', board.at(from));
            Check.same("played, " + move, 1, board.played());
        }
    }

    /** moves() is 0 if the game is over: then there is no move 0. */
    static void promise18PlayHasNoMoveAsTheGameIsOver() {
        Check.refuses("nothing there", INDEX, Huffboard::new, board -> board.play(0));
        Check.refuses("drawn", INDEX, () -> Boards.toAndFro("9=3", 3), board -> board.play(0));
        Check.refuses("law 8", INDEX, Edges::wonByLaw8, board -> board.play(0));
    }

    /** "at most 120 are kept"; "Throws IllegalStateException if 120 are kept". */
    static void promise18PlayKeeps120() {
        Huffboard board = Boards.toAndFro("", MOST_KEPT - 1);
        Check.same("the last one that is kept", 'p', board.play(0));
        Check.same("how many", MOST_KEPT, board.played());
        Check.refuses("one more", STATE, Edges::kept120, one -> one.play(0));
        board.back();
        Check.same("once more", 'p', board.play(0));
        Check.same("how many again", MOST_KEPT, board.played());
    }

    /** "If several exceptions apply, the one that is listed first is thrown." */
    static void promise18PlayThrowsTheFirstOfSeveral() {
        Check.refuses("no such move, 120 kept", INDEX, Edges::kept120, board -> board.play(1));
        Check.refuses("no such move -1, 120 kept", INDEX, Edges::kept120, board -> board.play(-1));
        Check.refuses("over, 120 kept", INDEX, Edges::drawnAt120, board -> board.play(0));
    }

    /** "Returns the state then": each of the four. */
    static void promise18PlayReturnsTheState() {
        Check.same("it goes on", 'p', Boards.of(6, "m13 M4").play(0));
        Check.same("0 won", '0', Boards.of(6, "m13 M10").play(0));
        Check.same("1 won", '1', turned(6, "", "M4 m7").play(0));
        Check.same("drawn", 'd', Boards.of(6, "9=1", "k15 K2").play(0));
    }

    // Promise 20

    /** "Throws IndexOutOfBoundsException if there is no such field, for either". */
    static void promise20MoveTakesTheFieldsThatThereAre() {
        for (int field : new int[] {-1, 8, LEAST, GREATEST}) {
            Check.refuses("from " + field, INDEX, Boards::set, board -> board.move(field, 4));
            Check.refuses("to " + field, INDEX, Boards::set, board -> board.move(7, field));
            Check.refuses("both " + field, INDEX, Boards::begun, board -> board.move(field, field));
        }
        Check.same("from the last field", 'p', Boards.of(8, "k31 K3").move(31, 27));
        Check.same("to the last field", 'p', Boards.of(8, "k27 K3").move(27, 31));
        Check.same("from the first field", 'p', Boards.of(8, "k0 K31").move(0, 4));
        Check.same("to the first field", 'p', Boards.of(8, "k4 K31").move(4, 0));
    }

    /** "Throws UnsupportedOperationException if there is not just one". */
    static void promise20MovePlaysTheOnlyOne() {
        Check.refusesMove("none", 'n', Boards::set, 7, 7);
        Check.refusesMove("two", 'd', () -> Boards.of(6, "m16 M6 M7 M12 M13"), 16, 4);
        Huffboard board = Boards.of(6, "m13 M4");
        Check.same("one", 'p', board.move(13, 11));
        Check.same("where it stands", "----M------m------", Boards.pieces(board));
        Huffboard round = Boards.of(6, "k16 M6 M7 M12 M13");
        Check.same("one, round to where it set out", '0', round.move(16, 16));
        Check.same("where that stands", "----------------k-", Boards.pieces(round));
    }

    /** "Throws IllegalStateException if 120 are kept". */
    static void promise20MoveKeeps120() {
        Check.refuses("one more", STATE, Edges::kept120, board -> board.move(15, 12));
        Huffboard board = Boards.toAndFro("", MOST_KEPT - 1);
        Check.same("the last one that is kept", 'p', board.move(5, 2));
        Check.same("how many", MOST_KEPT, board.played());
    }

    /** "If several exceptions apply, the one that is listed first is thrown." */
    static void promise20MoveThrowsTheFirstOfSeveral() {
        Check.refuses("no field, 120 kept", INDEX, Edges::kept120, board -> board.move(15, 18));
        Check.refuses("no field, none", INDEX, Boards::set, board -> board.move(-1, 0));
        Check.refusesMove("none, 120 kept", 'n', Edges::kept120, 15, 9);
        Check.refusesMove("over, 120 kept", 'o', Edges::drawnAt120, 15, 12);
    }

    /** "Returns the state then": each of the four. */
    static void promise20MoveReturnsTheState() {
        Check.same("it goes on", 'p', Boards.of(6, "m13 M4").move(13, 10));
        Check.same("0 won", '0', Boards.of(6, "m13 M10").move(13, 6));
        Check.same("1 won", '1', turned(6, "", "M4 m7").move(4, 11));
        Check.same("drawn", 'd', Boards.of(6, "9=1", "k15 K2").move(15, 12));
    }

    // Promise 21

    /** "Throws NoSuchElementException if none was refused so": also as others were refused, or played. */
    static void promise21WhyHasNoLetterYet() {
        Check.refuses("a new board", NONE, Huffboard::new, Huffboard::why);
        Huffboard board = Boards.of(6, "m13 M4");
        board.move(13, 10);
        Check.same("one was played", "NoSuchElementException", Boards.answer(board::why));
        Boards.answer(() -> board.move(10, 18));
        Check.same("no such field", "NoSuchElementException", Boards.answer(board::why));
        Boards.answer(() -> board.play(99));
        Check.same("no such index", "NoSuchElementException", Boards.answer(board::why));
        Huffboard full = kept120();
        Boards.answer(() -> full.move(15, 12));
        Check.same("120 are kept", "NoSuchElementException", Boards.answer(full::why));
    }

    /** "'n' there is no such move". */
    static void promise21WhyNoSuchMove() {
        Check.refusesMove("too far", 'n', () -> Boards.of(6, "m13"), 13, 7);
        Check.refusesMove("to itself", 'n', () -> Boards.of(6, "m13"), 13, 13);
        Check.refusesMove("back", 'n', () -> Boards.of(6, "m10"), 10, 13);
        Check.refusesMove("of the other side", 'n', () -> Boards.of(6, "m13 M4"), 4, 6);
        Check.refusesMove("from an empty field", 'n', () -> Boards.of(6, "m13 M4"), 12, 10);
        Check.refusesMove("to one that is taken", 'n', () -> Boards.of(6, "m13 m10"), 13, 10);
        Check.refusesMove("where a capture goes on", 'n', () -> Boards.of(6, "m16 M13 M7"), 16, 11);
    }

    /** "'d' several". */
    static void promise21WhySeveral() {
        Check.refusesMove("two", 'd', () -> Boards.of(6, "m16 M6 M7 M12 M13"), 16, 4);
        Check.refusesMove("two of the most", 'd', () -> Boards.of(6, "2=1", "m16 M6 M7 M12 M13"), 16, 4);
        Check.same("just one", 'p', Boards.of(6, "m16 M7 M12 M13").move(16, 4));
    }

    /** "'c' it is none since one must capture". */
    static void promise21WhyOneMustCapture() {
        Check.refusesMove("law 6 is 1", 'c', () -> Boards.of(6, "m13 M10"), 13, 11);
        Check.refusesMove("another piece must", 'c', () -> Boards.of(6, "m13 M10 m17"), 17, 14);
        Huffboard free = Boards.of(6, "6=0", "m13 M10");
        Check.same("law 6 is 0", 'p', free.move(13, 11));
    }

    /** "or by laws 2 and 3": also as law 6 is 0. */
    static void promise21WhyByLaws2And3() {
        for (String law : new String[] {"6=1", "6=0"}) {
            Check.refusesMove("law 2, " + law, 'c', () -> Boards.of(8, "2=1 " + law, "m19 K15 m28 M24 M17"), 19, 10);
            Check.refusesMove("law 2 is 2, " + law, 'c', () -> Boards.of(8, "2=2 " + law, "m19 K15 m28 M24"), 28, 21);
            Check.refusesMove("law 3, " + law, 'c', () -> Boards.of(6, "3=1 " + law, "k2 M5 m15 M12"), 15, 10);
        }
        Check.refusesMove("two at once", 'c', () -> Boards.of(8, "2=1", "m30 M25 M17 M26 M18 M16 M8"), 30, 14);
        Check.refusesMove("law 2 is 0", 'd', () -> Boards.of(8, "m30 M25 M17 M26 M18 M16 M8"), 30, 14);
    }

    /** "'o' the game is over": whatever is told. */
    static void promise21WhyTheGameIsOver() {
        Check.refusesMove("nothing there", 'o', Huffboard::new, 0, 3);
        Check.refusesMove("drawn by law 9", 'o', () -> Boards.toAndFro("9=1", 1), 2, 5);
        Check.refusesMove("drawn by law 10", 'o', () -> Boards.of(6, "10=1", "m13"), 13, 10);
        Check.refusesMove("drawn, no such move", 'o', () -> Boards.of(6, "10=1", "m13"), 0, 17);
        Check.refusesMove("drawn, one must capture", 'o', () -> Boards.of(6, "10=1", "m13 M10"), 13, 11);
        Check.refusesMove("drawn, several", 'o', () -> Boards.of(6, "10=1", "m16 M6 M7 M12 M13"), 16, 4);
        Check.refusesMove("won by law 8", 'o', Edges::wonByLaw8, 5, 7);
    }

    /** "Returns why the last move by two fields was not played": the last one that was not. */
    static void promise21WhyOfTheLastOne() {
        Huffboard board = Boards.of(6, "m13 M10");
        Boards.answer(() -> board.move(13, 11));
        Boards.answer(() -> board.move(13, 7));
        Check.same("the second one", 'n', board.why());
        Check.same("asked again", 'n', board.why());
        Boards.answer(() -> board.move(13, 11));
        Check.same("the third one", 'c', board.why());
        board.move(13, 6);
        Boards.answer(() -> board.move(13, 11));
        Check.same("over", 'o', board.why());
    }

    // Promises 22 and 23

    /** A step of the side 0 by which it left a capture: the man that moved can be huffed, on 11. */
    private static Huffboard huffable() {
        Huffboard board = Boards.of(6, "6=0", "m13 M10 m17 K2");
        board.move(13, 11);
        return board;
    }

    private static Huffboard huffed() {
        Huffboard board = huffable();
        board.huff(11);
        return board;
    }

    /** "Throws IndexOutOfBoundsException if there is no such field". */
    static void promise22HuffTakesTheFieldsThatThereAre() {
        for (int field : new int[] {-1, 18, LEAST, GREATEST}) {
            Check.refuses("field " + field, INDEX, GameEdgesTest::huffable, board -> board.huff(field));
            Check.refuses("huffed, field " + field, INDEX, GameEdgesTest::huffed, board -> board.huff(field));
        }
        Huffboard last = Boards.of(6, "6=0", "k17 M13 m15 K2");
        last.move(15, 12);
        Check.same("the last field", 'p', last.huff(17));
        Huffboard first = Boards.of(6, "6=0", "k0 M4 m15 K8");
        first.move(15, 12);
        Check.same("the first field", 'p', first.huff(0));
    }

    /** "Throws UnsupportedOperationException if it cannot be huffed". */
    static void promise22HuffTakesWhatCouldHaveCapturedAlone() {
        for (int field = 0; field < 18; field++) {
            int asked = field;
            if (field != 11) {
                Check.refuses("field " + field, UNSUPPORTED, GameEdgesTest::huffable, board -> board.huff(asked));
            }
        }
        Huffboard board = huffable();
        Check.same("the one", 'p', board.huff(11));
        Check.same("it is taken off", "--K-------M------m", Boards.pieces(board));
        Check.same("who moves", 1, board.side());
    }

    /** "If law 6 is 0". */
    static void promise22HuffAsLaw6Is0Alone() {
        Check.refuses("law 6 is 1", UNSUPPORTED, () -> {
            Huffboard board = Boards.of(6, "m13 M4 m17 K2");
            board.move(13, 10);
            return board;
        }, board -> board.huff(10));
    }

    /** "a move without a capture was played". */
    static void promise22HuffNotBehindACapture() {
        Huffboard board = Boards.of(6, "6=0", "m13 m12 M10 K2");
        board.move(13, 6);
        Check.same("how many", 0, board.huffs());
        Check.refuses("the other one that could", UNSUPPORTED, () -> {
            Huffboard one = Boards.of(6, "6=0", "m13 m12 M10 K2");
            one.move(13, 6);
            return one;
        }, one -> one.huff(12));
    }

    /** "though captures were allowed". */
    static void promise22HuffNotWhereNothingCouldBeCaptured() {
        Huffboard board = Boards.of(6, "6=0", "m13 M10 M6 m3 K2");
        board.move(13, 11);
        Check.same("how many", 0, board.huffs());
        Check.same("refused", "UnsupportedOperationException", Boards.answer(() -> board.huff(11)));
    }

    /** "ahead of its own move": not ahead of the first move, not behind the own one. */
    static void promise22HuffAheadOfTheOwnMove() {
        Check.refuses("ahead of the first", UNSUPPORTED, () -> Boards.of(6, "6=0", "m13 M10"), board -> board.huff(13));
        Check.refuses("behind the own one", UNSUPPORTED, () -> {
            Huffboard board = huffable();
            board.move(2, 5);
            return board;
        }, board -> board.huff(11));
        Huffboard board = huffable();
        board.move(2, 5);
        board.back();
        Check.same("the own one is taken back", 'p', board.huff(11));
    }

    /** "can huff once". */
    static void promise22HuffOnce() {
        Huffboard board = Boards.of(6, "6=0", "m12 m13 M10 M0");
        board.move(12, 9);
        Check.same("two could be", 2, board.huffs());
        Check.same("one is", 'p', board.huff(9));
        Check.same("none can be", 0, board.huffs());
        Check.same("the other one", "UnsupportedOperationException", Boards.answer(() -> board.huff(13)));
        Check.same("what is left", "M---------M--m----", Boards.pieces(board));
        board.play(0);
        board.back();
        Check.same("none, behind a move taken back", 0, board.huffs());
        Check.refuses("again where it was", UNSUPPORTED, GameEdgesTest::huffed, one -> one.huff(11));
    }

    /** "while the game goes on". */
    static void promise22HuffWhileTheGameGoesOn() {
        Check.refuses("won by law 8", UNSUPPORTED, () -> {
            Huffboard board = Boards.of(6, "6=0 8=1", "m13 M10 k2 K17");
            board.move(13, 11);
            return board;
        }, board -> board.huff(11));
        Check.refuses("drawn by law 9", UNSUPPORTED, () -> {
            Huffboard board = Boards.of(6, "6=0 9=1", "k13 M10 K2");
            board.move(13, 11);
            return board;
        }, board -> board.huff(11));
        Check.refuses("won, as nobody can move", UNSUPPORTED, () -> {
            Huffboard board = Boards.of(6, "6=0", "m13 m15 m16 M12");
            Check.same("the step that shuts it in", '0', board.move(13, 10));
            return board;
        }, board -> board.huff(15));
    }

    /** "it takes off one of the pieces that could have captured": the one that moved, or another one. */
    static void promise22HuffOneOfSeveral() {
        for (int field : new int[] {9, 13}) {
            Huffboard board = Boards.of(6, "6=0", "m12 m13 M10 M0");
            board.move(12, 9);
            Check.same("on " + field, 'p', board.huff(field));
            Check.same("taken off " + field, '-', board.at(field));
            Check.same("the other one stands, " + field, 'm', board.at(22 - field));
        }
    }

    /** "by an allowed capture": not by one that the laws 2 and 3 leave out. */
    static void promise22HuffByAnAllowedCapture() {
        Huffboard most = Boards.of(6, "6=0 2=1", "m14 M11 m15 M12 M6 m17");
        most.move(17, 13);
        Check.same("law 2, how many", 1, most.huffs());
        Check.same("law 2, left out", "UnsupportedOperationException", Boards.answer(() -> most.huff(14)));
        Check.same("law 2, the other one", 'p', most.huff(15));
        Huffboard kings = Boards.of(6, "6=0 3=1", "k2 M5 m15 M12 m17");
        kings.move(17, 14);
        Check.same("law 3, how many", 1, kings.huffs());
        Check.same("law 3, a man", "UnsupportedOperationException", Boards.answer(() -> kings.huff(15)));
        Check.same("law 3, the king", 'p', kings.huff(2));
    }

    /** "where it is now". */
    static void promise22HuffWhereItIsNow() {
        Check.refuses("where it was", UNSUPPORTED, GameEdgesTest::huffable, board -> board.huff(13));
        Check.same("where it is", 'p', huffable().huff(11));
        Huffboard board = Boards.of(6, "6=0", "m13 M10 m17 K2");
        board.move(17, 14);
        Check.same("the one that moved instead", "UnsupportedOperationException", Boards.answer(() -> board.huff(14)));
        Check.same("one that stayed", 'p', board.huff(13));
    }

    /** "this belongs to the move before, and is taken back with it". */
    static void promise22HuffIsTakenBackWithTheMove() {
        Huffboard board = huffed();
        Check.same("played", 1, board.played());
        Check.same("kept", 0, board.back());
        Check.same("all is there", "--K-------M--m---m", Boards.pieces(board));
        Check.same("who moves", 0, board.side());
        board.move(13, 11);
        Check.same("it stands again", 'm', board.at(11));
        Check.same("it can be huffed again", 'p', board.huff(11));
        Huffboard other = Boards.of(6, "6=0", "m12 m13 M10 M0");
        other.move(12, 9);
        other.huff(13);
        other.back();
        Check.same("one that did not move is there, too", "M---------M-mm----", Boards.pieces(other));
    }

    /** "the position is then there in place of that behind the move". */
    static void promise22HuffPutsAnotherPositionThere() {
        Huffboard board = Boards.of(6, "6=0", "k8 k15 M12 K0 K2");
        board.move(8, 11);
        board.huff(15);
        int[] moves = {0, 3, 11, 8, 3, 0, 8, 11};
        for (int i = 0; i < moves.length; i += 2) {
            Check.same("not seen yet", 1, board.seen());
            board.move(moves[i], moves[i + 1]);
        }
        Check.same("the position behind huffing", 2, board.seen());
        Huffboard other = Boards.of(6, "6=0", "k8 k15 M12 K0 K2");
        other.move(8, 11);
        Check.same("that of the move alone", 1, other.seen());
    }

    /** "calm() stays". */
    static void promise22HuffLeavesCalm() {
        Huffboard board = Boards.of(6, "6=0 9=4", "k15 M12 k8 K0");
        board.move(8, 5);
        board.move(0, 3);
        board.move(5, 8);
        Check.same("ahead", 3, board.calm());
        Check.same("huffed, a king", 'p', board.huff(15));
        Check.same("behind", 3, board.calm());
        Check.same("one more", 'd', board.move(3, 0));
    }

    /** "Returns the state then": who huffs may have no move left, or the other side no piece. */
    static void promise22HuffReturnsTheState() {
        for (int law = 0; law < 2; law++) {
            Huffboard board = Boards.of(6, "0=1 6=0 7=" + law, "k10 M13 k14 m16");
            Check.same("it can capture the king alone", 'p', board.move(14, 17));
            Check.same("which is huffed, law 7 is " + law, (char) ('0' + law), board.huff(10));
            Check.same("no moves", 0, board.moves());
            Check.same("none can be huffed", 0, board.huffs());
            board.back();
            Check.same("taken back", 'p', board.state());
        }
        Huffboard last = turned(6, "6=0", "M10 m13 k0");
        last.move(10, 12);
        Check.same("the last piece", 'p', last.huff(12));
        Check.same("and behind the next move", '0', last.play(0));
    }

    /** The last move that is kept can be huffed for as well as the first one. */
    static void promise22HuffBehindTheLastMoveThatIsKept() {
        Huffboard board = Boards.toAndFro("6=0", "k15 K2 M4 m7", MOST_KEPT);
        Check.same("two could be", 2, board.huffs());
        Check.same("one is", 'p', board.huff(4));
        Check.same("none any more", 0, board.huffs());
        Check.same("played", MOST_KEPT, board.played());
        Check.same("kept", MOST_KEPT - 1, board.back());
        Check.same("it is there again", 'M', board.at(4));
        Check.same("who left a capture, too", 1, board.huffs());
    }

    /** "Returns how many pieces could be huffed": none, one, several. */
    static void promise23HuffsFromNone() {
        Check.same("a new board", 0, new Huffboard().huffs());
        Check.same("ahead of the first move", 0, Boards.of(6, "6=0", "m13 M10").huffs());
        Check.same("one", 1, huffable().huffs());
        Check.same("none any more", 0, huffed().huffs());
        Huffboard two = Boards.of(6, "6=0", "m12 m13 M10 M0");
        two.move(12, 9);
        Check.same("two", 2, two.huffs());
        Huffboard over = Boards.of(6, "6=0", "m13 m15 m16 M12");
        over.move(13, 10);
        Check.same("none as the game is over, though two could have", 0, over.huffs());
        Huffboard ways = Boards.of(6, "6=0", "m16 M12 M13 k0");
        ways.move(0, 3);
        Check.same("one that could in two ways", 1, ways.huffs());
    }

    /** "though captures were allowed": those of the position ahead of the move, not of others that were asked. */
    static void promise23HuffsOfThePositionAheadOfTheMove() {
        Huffboard board = Boards.of(6, "6=0", "m13 M10 k0");
        Check.same("one could capture", 4, board.moves());
        board.put(13, '-');
        board.play(0);
        Check.same("it was taken off ahead of the move", 0, board.huffs());
        Huffboard other = Boards.of(6, "6=0", "m13 M6 M9");
        other.move(13, 10);
        Check.yes("the other side can capture", other.captures(0, 10));
        Check.same("that is not for huffing", 0, other.huffs());
    }

    // Promises 24 and 25

    /** "Throws NoSuchElementException if there is none": at first, and as all are taken back. */
    static void promise24BackFromNone() {
        Check.refuses("a new board", NONE, Huffboard::new, Huffboard::back);
        Check.refuses("one that is set", NONE, Boards::set, Huffboard::back);
        Check.refuses("all are taken back", NONE, () -> {
            Huffboard board = Boards.begun();
            board.back();
            return board;
        }, Huffboard::back);
    }

    /** "Returns how many are kept then": from 119 down to 0. */
    static void promise24BackFrom120ToNone() {
        Huffboard board = kept120();
        for (int left = MOST_KEPT - 1; left >= 0; left--) {
            Check.same("left", left, board.back());
        }
        Check.same("as it was", Boards.whole(Boards.of(6, "k15 K2")), Boards.whole(board));
    }

    /** "A move that is taken back makes all as it was": captures, crownings and huffing, whoever moves first. */
    static void promise24BackMakesAllAsItWas() {
        for (int side = 0; side < 2; side++) {
            Huffboard board = Boards.of(6, "5=1 6=0 9=4", "m6 M4 M5 M9 k17 m13 K14");
            board.turn(side);
            String[] before = new String[12];
            int moves = 0;
            for (; moves < before.length && board.moves() > 0; moves++) {
                before[moves] = Boards.print(board);
                board.play(moves * 7 % board.moves());
                if (board.huffs() > 0 && moves % 3 == 1) {
                    huffAny(board);
                }
            }
            Check.yes("there is a game, side " + side, moves > 4);
            while (moves > 0) {
                moves--;
                Check.same("left, side " + side, moves, board.back());
                Check.same("at " + moves + ", side " + side, before[moves], Boards.print(board));
            }
        }
    }

    private static void huffAny(Huffboard board) {
        for (int i = 0; i < board.fields() && board.huffs() > 0; i++) {
            int field = i;
            Boards.answer(() -> board.huff(field));
        }
    }

    /** "draws too". */
    static void promise24BackFromDraws() {
        Huffboard calm = Boards.toAndFro("9=2", 2);
        Check.same("drawn by law 9", 'd', calm.state());
        calm.back();
        Check.same("not drawn", 'p', calm.state());
        Check.same("calm", 1, calm.calm());
        Check.same("drawn again", 'd', calm.move(2, 5));
        Huffboard seen = Boards.toAndFro("10=2", 4);
        Check.same("drawn by law 10", 'd', seen.state());
        seen.back();
        Check.same("not drawn, either", 'p', seen.state());
        Check.same("drawn again, too", 'd', seen.move(5, 2));
        Huffboard won = Boards.of(6, "m13 M10");
        won.play(0);
        Check.same("won", '0', won.state());
        won.back();
        Check.same("not won", 'p', won.state());
    }

    /** "Returns how many moves are kept": from none to 120; huffing is none. */
    static void promise25PlayedFromNoneTo120() {
        Check.same("a new board", 0, new Huffboard().played());
        Check.same("one", 1, Boards.toAndFro("", 1).played());
        Check.same("almost all", MOST_KEPT - 1, Boards.toAndFro("", MOST_KEPT - 1).played());
        Check.same("all", MOST_KEPT, kept120().played());
        Check.same("huffing is none", 1, huffed().played());
        Huffboard board = kept120();
        Boards.answer(() -> board.play(0));
        Check.same("no more", MOST_KEPT, board.played());
    }

    // Promise 26

    /** "if who should move cannot, the other side wins, by law 7 this one": no pieces. */
    static void promise26StateOfTheEmptyBoard() {
        for (int rows = 4; rows <= 8; rows++) {
            Check.same("side 0 of " + rows, '1', Boards.of(rows, "").state());
            Check.same("side 1 of " + rows, '0', turned(rows, "", "").state());
            Check.same("side 0 of " + rows + ", law 7", '0', Boards.of(rows, "7=1", "").state());
            Check.same("side 1 of " + rows + ", law 7", '1', turned(rows, "7=1", "").state());
        }
    }

    /** "if who should move cannot": pieces that are shut in. */
    static void promise26StateOfASideThatIsShutIn() {
        Check.same("side 0", '1', Boards.of(6, "m9 M6 M4").state());
        Check.same("side 0, law 7", '0', Boards.of(6, "7=1", "m9 M6 M4").state());
        Check.same("side 1", '0', turned(6, "", "M8 m11 m13").state());
        Check.same("side 1, law 7", '1', turned(6, "7=1", "M8 m11 m13").state());
        Check.same("behind a move", '1', turned(6, "", "m9 M6 M1").move(1, 4));
    }

    /** One single move is enough to go on, any way, also if it is a capture. */
    static void promise26StateOfASideWithOneMoveLeft() {
        Check.same("up and left", 'p', Boards.of(6, "m8").state());
        Check.same("up and right", 'p', Boards.of(6, "m9").state());
        Check.same("down and left", 'p', turned(6, "", "M8").state());
        Check.same("down and right", 'p', turned(6, "", "M9").state());
        Check.same("a king up and left", 'p', Boards.of(6, "k17 M14").state());
        Check.same("a king up and right", 'p', Boards.of(6, "k17 M13 M10").state());
        Check.same("a king down and left", 'p', Boards.of(6, "k0 M4 M7").state());
        Check.same("a king down and right", 'p', Boards.of(6, "k0 M3").state());
        Check.same("a capture alone, up and right", 'p', Boards.of(6, "m9 M6").state());
        Check.same("a capture alone, up and left", 'p', Boards.of(6, "m8 M5").state());
        Check.same("and no field behind", '1', Boards.of(6, "m5 M1 M2").state());
        Check.same("and none that is empty", '1', Boards.of(6, "m7 M4 M0 M5 M2").state());
        Check.same("and none that is empty, law 4", '1', Boards.of(6, "4=1", "m7 M4 M0 M5 M2").state());
    }

    /** "by law 8, if the side that moved last has a king, it wins, not ahead of the first move". */
    static void promise26StateByLaw8NotAheadOfTheFirstMove() {
        Huffboard board = Boards.of(6, "8=1", "m13 K14 M8");
        Check.same("ahead of it", 'p', board.state());
        Check.same("a king of the side that moves now", 'p', board.move(13, 10));
        Check.same("a king of the side that moved", '1', board.move(8, 11));
        board.back();
        Check.same("taken back", 'p', board.state());
        board.back();
        Check.same("all taken back", 'p', board.state());
        Check.same("kings of both sides", '0', Boards.of(6, "8=1", "k15 K2").play(0));
        Check.same("a king that was not moved", '0', Boards.of(6, "8=1", "k15 m13 M2").move(13, 10));
        Check.same("a man that became a king", '0', Boards.of(6, "8=1", "m3 M5").play(0));
        Check.same("law 8 is 0", 'p', Boards.of(6, "k15 K2").play(0));
    }

    /** "over, by the first of these that holds": law 8 ahead of who cannot move. */
    static void promise26StateByLaw8AheadOfLaw7() {
        Check.same("law 7 alone", '1', Boards.of(6, "7=1", "k13 M10").play(0));
        Check.same("laws 7 and 8", '0', Boards.of(6, "7=1 8=1", "k13 M10").play(0));
        Check.same("laws 7 and 8 without a king", '1', Boards.of(6, "7=1 8=1", "m13 M10").play(0));
        Check.same("ahead of the first move law 7 alone", '0', Boards.of(6, "7=1 8=1", "K2").state());
    }

    /** "9 after how many moves in a row by kings ... none a capture": just so many, one less is too few. */
    static void promise26StateIsDrawnByLaw9AtItsNumber() {
        for (int number : new int[] {1, 2, 3, 50, 98, 99}) {
            Huffboard board = Boards.toAndFro("9=" + number, number - 1);
            Check.same("one less than " + number, 'p', board.state());
            Check.same("just " + number, 'd', board.play(0));
            Check.same("no more moves behind " + number, 0, board.moves());
        }
    }

    /** "10 how often a position, with who moves, must be there for a draw": 1 to 5. */
    static void promise26StateIsDrawnByLaw10AtItsNumber() {
        Check.same("1, at once", 'd', Boards.of(6, "10=1", "k15 K2").state());
        for (int number = 2; number <= 5; number++) {
            Huffboard board = Boards.toAndFro("10=" + number, 4 * number - 5);
            Check.same("one less than " + number, 'p', board.state());
            Check.same("one less was seen than " + number, number - 1, board.seen());
            Check.same("just " + number, 'd', board.move(5, 2));
            Check.same("seen", number, board.seen());
        }
    }

    /** "the game is drawn, 0 never"; "must be there for a draw, 0 never". */
    static void promise26StateIsNeverDrawnByLaws9And10Being0() {
        Check.same("120 moves", 'p', kept120().state());
        Check.same("120 moves, law 9 alone is 0", 'p', Boards.toAndFro("9=0", MOST_KEPT).state());
        Check.same("98 of 99 moves, law 10 is 0", 'p', Boards.toAndFro("9=99 10=0", 98).state());
        Check.same("8 moves, law 10 is 5, law 9 is 0", 'p', Boards.toAndFro("9=0 10=5", 8).state());
    }

    /** "over, by the first of these that holds": won ahead of drawn. */
    static void promise26StateIsWonAheadOfDrawn() {
        Check.same("law 8 ahead of law 9", '0', Boards.of(6, "8=1 9=1", "k15 K2").play(0));
        Check.same("law 8 does not hold yet", 'd', Boards.of(6, "8=1 10=1", "k15 K2").state());
        Check.same("who cannot move ahead of law 9", '0', Boards.of(6, "9=1", "m15 m16 m9 m10 M12 k2").move(2, 5));
        Check.same("who cannot move ahead of law 10", '1', Boards.of(6, "10=1", "K2").state());
        Check.same("by law 7 ahead of law 10", '0', Boards.of(6, "7=1 10=1", "K2").state());
    }

    // Promises 27 and 28

    /** "how many moves in a row, the last ones, were by kings and no captures": none to 120. */
    static void promise27CalmFromNoneTo120() {
        Check.same("a new board", 0, new Huffboard().calm());
        Check.same("ahead of the first move", 0, Boards.of(6, "k15 K2").calm());
        for (int moves : new int[] {1, 2, 3, 60, MOST_KEPT - 1, MOST_KEPT}) {
            Check.same("moves of both sides", moves, Boards.toAndFro("", moves).calm());
        }
        Huffboard board = kept120();
        board.back();
        Check.same("taken back", MOST_KEPT - 1, board.calm());
    }

    /** "by kings": not by men, nor by one that becomes a king. */
    static void promise27CalmEndsWithAMoveByAMan() {
        Huffboard board = Boards.of(6, "k15 K2 m3 m17");
        board.move(15, 12);
        board.move(2, 5);
        Check.same("two kings", 2, board.calm());
        board.move(17, 14);
        Check.same("a man", 0, board.calm());
        board.move(5, 2);
        Check.same("a king", 1, board.calm());
        board.move(3, 0);
        Check.same("a man that becomes a king", 0, board.calm());
        board.move(2, 5);
        board.move(0, 3);
        Check.same("that king", 2, board.calm());
        board.back();
        board.back();
        board.back();
        Check.same("taken back", 1, board.calm());
    }

    /** "and no captures": not by kings, either. */
    static void promise27CalmEndsWithACapture() {
        Huffboard board = Boards.of(6, "6=0", "k13 M10 M0 K2");
        int[] moves = {13, 16, 2, 5, 16, 13, 5, 2};
        for (int i = 0; i < moves.length; i += 2) {
            board.move(moves[i], moves[i + 1]);
        }
        Check.same("four by kings", 4, board.calm());
        board.move(13, 6);
        Check.same("a capture by a king", 0, board.calm());
        board.back();
        Check.same("taken back", 4, board.calm());
        Huffboard man = Boards.of(6, "6=0", "k9 M10 m13 m16 K2");
        man.move(9, 6);
        Check.same("one by a king", 1, man.calm());
        man.move(10, 17);
        Check.same("a capture by a man", 0, man.calm());
    }

    /** "how often the position, with who moves, was there in the game, now included": from 1 to 31. */
    static void promise28SeenFromOnce() {
        Check.same("a new board", 1, new Huffboard().seen());
        Check.same("a board that is set", 1, Boards.set().seen());
        Check.same("behind one move", 1, Boards.toAndFro("", 1).seen());
        Check.same("behind three", 1, Boards.toAndFro("", 3).seen());
        Check.same("behind four", 2, Boards.toAndFro("", 4).seen());
        Check.same("behind five", 2, Boards.toAndFro("", 5).seen());
        Check.same("behind 119", 30, Boards.toAndFro("", MOST_KEPT - 1).seen());
        Huffboard board = kept120();
        Check.same("behind 120", 31, board.seen());
        board.back();
        board.back();
        board.back();
        board.back();
        Check.same("four taken back", 30, board.seen());
    }

    /** "in the game": not while the board was set. */
    static void promise28SeenInTheGameAlone() {
        Huffboard board = Boards.of(6, "k15");
        board.put(2, 'K');
        board.put(2, '-');
        board.turn(1);
        board.turn(0);
        Check.same("set thrice", 1, board.seen());
        board.fill(2);
        board.fill(0);
        board.fill(2);
        Check.same("filled twice", 1, board.seen());
        Huffboard again = Boards.toAndFro("", 4);
        for (int i = 0; i < 4; i++) {
            again.back();
        }
        Check.same("all taken back", 1, again.seen());
    }

    /** "the position": a king is not the man that stood there. */
    static void promise28SeenWithMenAndKings() {
        Huffboard board = Boards.of(6, "m3 K2");
        int[] moves = {3, 0, 2, 5, 0, 3, 5, 2};
        for (int kings = 0; kings < 3; kings++) {
            Check.same("with a man, or as often with a king", Math.max(1, kings), board.seen());
            for (int i = 0; i < moves.length; i += 2) {
                board.move(moves[i], moves[i + 1]);
            }
        }
        Check.same("three times with a king", 3, board.seen());
    }

    /** "with who moves". */
    static void promise28SeenWithWhoMoves() {
        Huffboard board = Boards.of(6, "1=1", "k15 K1");
        board.move(15, 7);
        board.move(1, 9);
        board.move(7, 10);
        board.move(9, 1);
        board.move(10, 15);
        Check.same("the same pieces", "-K-------------k--", Boards.pieces(board));
        Check.same("the other side moves", 1, board.seen());
    }
}
