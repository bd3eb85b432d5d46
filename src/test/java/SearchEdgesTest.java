/** One test for each sentence that names a boundary case of lines, proofs, keys, duals and the mean of moves. */
public final class SearchEdgesTest extends Edges {
    /** As many moves as can be proved. */
    private static final int MOST = 6;

    public static void main(String[] args) {
        Check.all(SearchEdgesTest.class);
    }

    // Promise 29

    private static String lines(Huffboard board) {
        StringBuilder text = new StringBuilder();
        for (int depth = 0; depth <= 4; depth++) {
            text.append(depth == 0 ? "" : " ").append(board.lines(depth));
        }
        return text.toString();
    }

    /** "depth: 0 to 4"; "Throws IllegalArgumentException if it is out of range". */
    static void promise29LinesTakes0To4() {
        for (int depth : new int[] {-1, 5, LEAST, GREATEST}) {
            Check.refuses("set, " + depth, ARGUMENT, Boards::set, board -> board.lines(depth));
            Check.refuses("begun, " + depth, ARGUMENT, Boards::begun, board -> board.lines(depth));
            Check.refuses("nothing there, " + depth, ARGUMENT, Huffboard::new, board -> board.lines(depth));
        }
        Huffboard eight = Boards.of(8, "");
        eight.fill(3);
        Check.same("the lines of checkers", "1 7 49 302 1469", lines(eight));
    }

    /** "in how many ways so many moves can be played": none at all in one way, one in as many as there are moves. */
    static void promise29LinesOfNoneAndOfOne() {
        Check.same("none, nothing there", 1, new Huffboard().lines(0));
        Check.same("none, over", 1, Boards.of(6, "M4").lines(0));
        Check.same("none, lost by law 8", 1, Boards.of(6, "8=1", "m13 K2").lines(0));
        Check.same("none, drawn", 1, Boards.of(6, "10=1", "m13 M4").lines(0));
        Huffboard board = Boards.of(6, "1=1", "k10 K2 M14");
        Check.same("one", board.moves(), board.lines(1));
    }

    /** "a game that is over goes on no more". */
    static void promise29LinesEndAsTheGameIsOver() {
        Check.same("nothing there", "1 0 0 0 0", lines(new Huffboard()));
        Check.same("over behind one", "1 1 0 0 0", lines(Boards.of(6, "m13 M10")));
        Check.same("over behind three", "1 1 1 1 0", lines(Boards.of(4, "k6 K1")));
        Check.same("a crowning", "1 1 2 4 6", lines(Boards.of(6, "m3 M5")));
        Check.same("a crowning by law 8", "1 1 0 0 0", lines(Boards.of(6, "8=1", "m3 M5")));
    }

    /** "draws aside": by law 9 and by law 10, now and behind. */
    static void promise29LinesLeaveDrawsAside() {
        for (String law : new String[] {"9=0", "9=1", "9=2", "10=1", "10=2"}) {
            Check.same("law " + law, "1 1 1 4 16", lines(Boards.of(6, law, "k15 K2")));
        }
        Huffboard drawn = Boards.toAndFro("9=4", 4);
        Check.same("it is drawn", 'd', drawn.state());
        Check.same("drawn in a game", "1 1 1 4 16", lines(drawn));
    }

    /** "the side that does not move counting as one that moved last, so ... ahead of lines, too". */
    static void promise29LinesCountTheOtherSideAsOneThatMoved() {
        Huffboard board = Boards.of(6, "8=1", "m13 K2");
        Check.same("it goes on", 2, board.moves());
        Check.same("a king of the other side", "1 0 0 0 0", lines(board));
        Check.same("a king of the side that moves", "1 2 0 0 0", lines(Boards.of(6, "8=1", "k17 M2")));
        Check.same("law 8 is 0", "1 2 2 4 9", lines(Boards.of(6, "m13 K2")));
    }

    // Promise 47

    /** "Throws ArithmeticException if there are none". */
    static void promise47MeanMovesOfNone() {
        Check.refuses("nothing there", ARITHMETIC, Huffboard::new, Huffboard::meanMoves);
        Check.refuses("over", ARITHMETIC, () -> Boards.of(6, "m9 M6 M4"), Huffboard::meanMoves);
        Check.refuses("drawn by law 10", ARITHMETIC, () -> Boards.of(6, "10=1", "m13 M4"), Huffboard::meanMoves);
        Check.refuses("drawn by law 9", ARITHMETIC, () -> Boards.toAndFro("9=1", 1), Huffboard::meanMoves);
        Check.refuses("won by law 8", ARITHMETIC, Edges::wonByLaw8, Huffboard::meanMoves);
    }

    /** "Returns the sum divided by their number, both converted to double." */
    static void promise47MeanMovesFromNoneOn() {
        Check.same("none behind", 0.0, Boards.of(6, "m13").meanMoves());
        Check.same("one and two", 1.5, Boards.of(6, "m13 M6").meanMoves());
        Check.same("five thirds", 5.0 / 3.0, Boards.of(6, "m3 m13 M6").meanMoves());
        Check.same("by law 8 none behind one", 1.0, Boards.of(6, "8=1", "m3 m13 M6").meanMoves());
        Huffboard eight = Boards.of(8, "");
        eight.fill(3);
        Check.same("of checkers", 7.0, eight.meanMoves());
    }

    /** "draws by the laws 9 and 10 behind them aside". */
    static void promise47MeanMovesLeaveDrawsBehindAside() {
        Check.same("law 9", 1.0, Boards.of(6, "9=1", "k15 K2").meanMoves());
        Huffboard board = Boards.toAndFro("10=2", 3);
        Check.same("how many there are", 4, board.moves());
        Check.same("law 10", Boards.toAndFro("", 3).meanMoves(), board.meanMoves());
    }

    // Promise 36

    /** What proves tells for 0 to 6 moves, as a text of 0 and 1. */
    private static String proofs(Huffboard board) {
        StringBuilder text = new StringBuilder();
        for (int moves = 0; moves <= MOST; moves++) {
            text.append(board.proves(moves) ? '1' : '0');
        }
        return text.toString();
    }

    /** "moves: 0 to 6"; "Throws IllegalArgumentException if it is out of range". */
    static void promise36ProvesTakes0To6() {
        for (int moves : new int[] {-1, 7, LEAST, GREATEST}) {
            Check.refuses("set, " + moves, ARGUMENT, Boards::set, board -> board.proves(moves));
            Check.refuses("begun, " + moves, ARGUMENT, Boards::begun, board -> board.proves(moves));
            Check.refuses("nothing there, " + moves, ARGUMENT, Huffboard::new, board -> board.proves(moves));
        }
        Check.yes("6 by law 7", Boards.of(5, "7=1", "m2 M7").proves(6));
    }

    /** "the side that moves has won already": then in 0 moves, otherwise never in 0. */
    static void promise36ProvesIn0WhatIsWonAlready() {
        Check.same("nothing there, law 7", "1111111", proofs(Boards.of(6, "7=1", "")));
        Check.same("no pieces, law 7", "1111111", proofs(Boards.of(6, "7=1", "M10")));
        Check.same("shut in, law 7", "1111111", proofs(Boards.of(6, "7=1", "m9 M6 M4")));
        Check.same("no pieces, laws 7 and 8", "1111111", proofs(Boards.of(6, "7=1 8=1", "M10")));
        Check.same("no pieces, law 8 ahead of law 7", "0000000", proofs(Boards.of(6, "7=1 8=1", "K10")));
        Check.same("lost already", "0000000", proofs(Boards.of(6, "M10")));
        Check.same("nothing there", "0000000", proofs(new Huffboard()));
        Check.same("a king by law 8 is no win ahead of a move", "0111111", proofs(Boards.of(6, "8=1", "k17 M2")));
    }

    /** "A win in at most n moves": just so many, and not in one less. */
    static void promise36ProvesInJustSoManyMoves() {
        Check.same("1", "0111111", proofs(Boards.of(6, "m13 M10")));
        Check.same("3", "0001111", proofs(Boards.of(5, "m11 M3")));
        Check.same("5", "0000011", proofs(Boards.of(5, "k3 M0")));
        Check.same("2 by law 7", "0011111", proofs(Boards.of(5, "7=1", "k11 K6")));
        Check.same("4 by law 7", "0000111", proofs(Boards.of(5, "7=1", "m11 M1")));
        Check.same("6 by law 7", "0000001", proofs(Boards.of(5, "7=1", "m2 M7")));
        Check.same("1 by law 8", "0111111", proofs(Boards.of(6, "8=1", "m3 M5")));
        Check.same("3 by law 8", "0001111", proofs(Boards.of(5, "8=1", "m5 M6")));
        Check.same("5 by law 8", "0000011", proofs(Boards.of(5, "8=1", "m7 M1")));
        Check.same("2 by laws 7 and 8", "0011111", proofs(Boards.of(5, "7=1 8=1", "m9 M4")));
        Check.same("3 by laws 7 and 8", "0001111", proofs(Boards.of(5, "7=1 8=1", "m5 M4")));
        Check.same("4 by laws 7 and 8", "0000111", proofs(Boards.of(5, "7=1 8=1", "m10 M1")));
        Check.same("5 by laws 7 and 8", "0000011", proofs(Boards.of(5, "7=1 8=1", "m9 M2")));
        Check.same("never", "0000000", proofs(Boards.of(4, "k7 K0")));
    }

    /** By law 7 it is no win to leave the other one no move. */
    static void promise36ProvesNoWinByLaw7BehindTheLastCapture() {
        Check.same("it must capture the last piece", "0000000", proofs(Boards.of(6, "7=1", "m13 M10")));
        Check.same("the last piece captures it", "0011111", proofs(Boards.of(6, "7=1", "m13 M6")));
    }

    /** "whatever the other one does": one answer that holds is enough against it. */
    static void promise36ProvesAgainstAllAnswers() {
        Huffboard board = Boards.of(5, "k4 M1");
        Check.no("one answer loses at once, the other one later", board.proves(3));
        board.play(0);
        board.play(0);
        Check.yes("behind the first answer", board.proves(1));
        board.back();
        board.play(1);
        Check.no("behind the second answer", board.proves(1));
        Check.yes("behind the second answer, in three", board.proves(3));
    }

    /** The moves of a proof are those that are allowed: of both sides captures alone where they are. */
    static void promise36ProvesByAllowedMoves() {
        Check.same("one's own captures", "0000000", proofs(Boards.of(5, "k9 k8 M6 M7")));
        Check.yes("one's own captures, law 6 is 0", Boards.of(5, "6=0", "k9 k8 M6 M7").proves(3));
        Check.yes("the captures of the other one", Boards.of(5, "k6 k2 K9").proves(3));
        Check.no("the captures of the other one, law 6 is 0", Boards.of(5, "6=0", "k6 k2 K9").proves(3));
    }

    /** "the laws 9 and 10 and huffing aside ... so in proofs". */
    static void promise36ProvesLeavesDrawsAside() {
        for (String law : new String[] {"9=1", "9=2", "10=1", "10=2"}) {
            Check.same("law " + law, "0000011", proofs(Boards.of(5, law, "k3 M0")));
        }
        Check.no("none where it goes to and fro", Boards.toAndFro("9=4", 4).proves(6));
    }

    /** "the side that does not move counting as one that moved last ... so in proofs". */
    static void promise36ProvesCountsTheOtherSideAsOneThatMoved() {
        Check.same("a king that does not move", "0000000", proofs(Boards.of(6, "8=1", "m3 K17")));
        Check.same("it would win", "0111111", proofs(Boards.of(6, "8=1", "m3 M14")));
    }

    // Promise 37

    private static String keys(Huffboard board) {
        StringBuilder text = new StringBuilder();
        for (int moves = 1; moves <= MOST; moves++) {
            text.append(board.keys(moves));
        }
        return text.toString();
    }

    /** "moves: 1 to 6"; "Throws IllegalArgumentException if it is out of range". */
    static void promise37KeysTakes1To6() {
        for (int moves : new int[] {0, -1, 7, LEAST, GREATEST}) {
            Check.refuses("set, " + moves, ARGUMENT, Boards::set, board -> board.keys(moves));
            Check.refuses("begun, " + moves, ARGUMENT, Boards::begun, board -> board.keys(moves));
            Check.refuses("nothing there, " + moves, ARGUMENT, Huffboard::new, board -> board.keys(moves));
        }
    }

    /** "Returns how many keys there are": none, all moves, and none less than it takes. */
    static void promise37KeysFromNoneToAll() {
        Check.same("nothing there", "000000", keys(new Huffboard()));
        Check.same("lost", "000000", keys(Boards.of(6, "M10")));
        Check.same("drawn", "000000", keys(Boards.of(4, "k7 K0")));
        Check.same("one in 1", "111111", keys(Boards.of(6, "m13 M10")));
        Check.same("all of four in 1", "444444", keys(Boards.of(6, "k10")));
        Check.same("one in 3", "001111", keys(Boards.of(5, "m11 M3")));
        Check.same("all of three in 5", "000033", keys(Boards.of(5, "k3 M0")));
        Check.same("one in 6 by law 7", "000001", keys(Boards.of(5, "7=1", "m2 M7")));
        Check.same("one in 2, two in 4, by law 7", "011222", keys(Boards.of(5, "7=1", "k11 K6")));
        Check.same("one in 3, all of four in 5", "001144", keys(Boards.of(5, "k8 m10 M0")));
    }

    /** "The keys are the moves that do so": there are none where it is won or lost already. */
    static void promise37KeysAreNoneAsItIsOver() {
        Check.same("won already by law 7", "000000", keys(Boards.of(6, "7=1", "M10")));
        Huffboard lost = Boards.of(6, "8=1", "m3 K17");
        Check.same("lost by law 8, though the game goes on", 1, lost.moves());
        Check.same("lost by law 8", "000000", keys(lost));
    }

    /** "draws by the laws 9 and 10 aside". */
    static void promise37KeysLeaveDrawsAside() {
        for (String law : new String[] {"9=1", "9=2", "10=1", "10=2"}) {
            Check.same("law " + law, "000033", keys(Boards.of(5, law, "k3 M0")));
        }
    }

    // Promise 38

    /** "Throws IllegalArgumentException if the number is out of range"; ahead of the other one. */
    static void promise38KeyAtTakes1To6() {
        for (int moves : new int[] {0, -1, 7, LEAST, GREATEST}) {
            Check.refuses("set, " + moves, ARGUMENT, Boards::set, board -> board.keyAt(moves, 0));
            Check.refuses("no key, " + moves, ARGUMENT, Huffboard::new, board -> board.keyAt(moves, -1));
        }
        Check.same("in 1", 0, Boards.of(6, "m13 M10").keyAt(1, 0));
        Check.same("in 6", 0, Boards.of(5, "7=1", "m2 M7").keyAt(6, 0));
    }

    /** "index: the index, from 0"; "Throws NoSuchElementException if there is no such key". */
    static void promise38KeyAtTakesTheKeysThatThereAre() {
        Huffboard board = Boards.of(5, "k3 M0");
        for (int index = 0; index < 3; index++) {
            Check.same("key " + index, index, board.keyAt(5, index));
        }
        for (int index : new int[] {-1, 3, LEAST, GREATEST}) {
            Check.refuses("key " + index, NONE, () -> Boards.of(5, "k3 M0"), one -> one.keyAt(5, index));
        }
        Check.refuses("none in 4", NONE, () -> Boards.of(5, "k3 M0"), one -> one.keyAt(4, 0));
        Check.refuses("nothing there", NONE, Huffboard::new, one -> one.keyAt(6, 0));
        Check.refuses("won already", NONE, () -> Boards.of(6, "7=1", "M10"), one -> one.keyAt(6, 0));
    }

    /** "numbered as moves are then": among all moves that are allowed, also as the game is drawn. */
    static void promise38KeyAtIsNumberedAsMovesAre() {
        Huffboard board = Boards.of(6, "6=0", "m3 m13 M10");
        Check.same("moves", "3>0+ 13>6x10 13>11", Boards.moves(board));
        Check.same("the only key", 1, board.keyAt(1, 0));
        Huffboard drawn = Boards.of(6, "6=0 10=1", "m3 m13 M10");
        Check.same("drawn, no moves", 0, drawn.moves());
        Check.same("drawn, the only key", 1, drawn.keyAt(1, 0));
        Check.same("captures are all that there are", 0, Boards.of(5, "k4 M6").keyAt(1, 0));
        Check.same("the last one of four", 3, Boards.of(5, "k8 m10 M0").keyAt(5, 3));
    }

    // Promise 39

    private static String duals(Huffboard board) {
        StringBuilder text = new StringBuilder();
        for (int moves = 1; moves <= MOST; moves++) {
            int asked = moves;
            text.append(Boards.answer(() -> board.duals(asked)).toString().replace("NoSuchElementException", "-"));
        }
        return text.toString();
    }

    /** "moves: 1 to 6"; "Throws IllegalArgumentException if it is out of range", ahead of the other one. */
    static void promise39DualsTakes1To6() {
        for (int moves : new int[] {0, -1, 7, LEAST, GREATEST}) {
            Check.refuses("keys, " + moves, ARGUMENT, () -> Boards.of(6, "m13 M10"), board -> board.duals(moves));
            Check.refuses("no key, " + moves, ARGUMENT, Huffboard::new, board -> board.duals(moves));
        }
        Check.same("in 1", 0, Boards.of(6, "m13 M10").duals(1));
        Check.same("in 6", 1, Boards.of(5, "7=1", "m2 M7").duals(6));
    }

    /** "Throws NoSuchElementException if there is no key". */
    static void promise39DualsWithoutAKey() {
        Check.refuses("nothing there", NONE, Huffboard::new, board -> board.duals(6));
        Check.refuses("won already", NONE, () -> Boards.of(6, "7=1", "M10"), board -> board.duals(1));
        Check.refuses("lost by law 8", NONE, () -> Boards.of(6, "8=1", "m3 K17"), board -> board.duals(1));
        Check.refuses("one move too few", NONE, () -> Boards.of(5, "k3 M0"), board -> board.duals(4));
        Check.refuses("drawn by the table", NONE, () -> Boards.of(4, "k7 K0"), board -> board.duals(6));
    }

    /** "the number of own moves at which there was more than one key": not of the keys, and none for one. */
    static void promise39DualsCountMovesNotKeys() {
        Check.same("one key", "000000", duals(Boards.of(6, "m13 M10")));
        Check.same("two keys", "111111", duals(Boards.of(6, "m13 m12 M10")));
        Check.same("four keys", "111111", duals(Boards.of(6, "k10")));
        Check.same("three keys, then one, then one", "----11", duals(Boards.of(5, "k3 M0")));
        Check.same("one key, then three, then one", "----11", duals(Boards.of(5, "k4 M1")));
    }

    /** "then the first answer by which the win takes longest": not another one that takes less. */
    static void promise39DualsBehindTheLongestAnswer() {
        Huffboard board = Boards.of(5, "k4 M1");
        board.play(0);
        board.play(0);
        Check.same("behind the first answer", "000000", duals(board));
        board.back();
        board.play(1);
        Check.same("behind the second answer, which takes longer", "--1111", duals(board));
        board.back();
        board.back();
        Check.same("from the first move on", 1, board.duals(5));
    }

    /** "by which the win takes longest": by laws 7 and 8 that can be one move more than none. */
    static void promise39DualsBehindAnAnswerThatTakesOneMoveMore() {
        Check.same("won already behind the first answer, in 1 behind the others", "--2222",
            duals(Boards.of(5, "0=1 6=0 7=1 8=1", "m6 M5")));
        Check.same("won in 1 behind the first answer, already behind the other one", "--2222",
            duals(Boards.of(5, "1=1 6=0 7=1 8=1", "m6 M0")));
    }

    /** "the first answer" of those that take as long. */
    static void promise39DualsBehindTheFirstOfTheLongestAnswers() {
        Huffboard board = Boards.of(5, "m3 k11 M6");
        board.play(0);
        board.play(0);
        Check.same("behind the first answer", 0, board.duals(1));
        board.back();
        board.play(1);
        Check.same("behind the second answer, which takes as long", 1, board.duals(1));
        board.back();
        board.back();
        Check.same("two keys, then one", 1, board.duals(3));
    }

    /** "with the first key played". */
    static void promise39DualsBehindTheFirstKey() {
        Huffboard board = Boards.of(5, "7=1", "m11 M1");
        Check.same("two keys", 2, board.keys(4));
        Check.same("the first key is the first move", 0, board.keyAt(4, 0));
        Check.same("two moves with more than one", "---222", duals(board));
    }

    /** "more than one key for what was left of the number of moves told". */
    static void promise39DualsForWhatIsLeft() {
        Huffboard board = Boards.of(5, "k8 m10 M0");
        Check.same("one key in 3, all four in 5", "--0022", duals(board));
        Check.same("another one", "----22", duals(Boards.of(5, "m10 k1 M0")));
        Check.same("by law 7, one key in 2", "-00111", duals(Boards.of(5, "7=1", "k11 K6")));
        Check.same("by laws 7 and 8", "---000", duals(Boards.of(5, "7=1 8=1", "m11 M0")));
    }

    /** "and so on until it is won": by law 7 the other one may end it. */
    static void promise39DualsUntilItIsWon() {
        Check.same("the own move ends it", "111111", duals(Boards.of(6, "k10")));
        Check.same("by law 7 the answer ends it", 0, Boards.of(6, "7=1", "m13 M6").duals(2));
        Check.same("by law 7 with moves to spare", "-00000", duals(Boards.of(6, "7=1", "m13 M6")));
        Check.same("by law 7 behind two keys", "-00111", duals(Boards.of(5, "7=1", "k11 K6")));
        Check.same("by law 8 the crowning ends it", "--1111", duals(Boards.of(5, "8=1", "m5 M6")));
    }

    /** Draws by the laws 9 and 10 are aside here, too. */
    static void promise39DualsLeaveDrawsAside() {
        for (String law : new String[] {"9=1", "9=2", "10=1", "10=2"}) {
            Check.same("law " + law, "----11", duals(Boards.of(5, law, "k4 M1")));
        }
    }
}
