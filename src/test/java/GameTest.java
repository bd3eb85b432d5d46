/** Promises 18 and 20 to 28, and the laws 7 to 10: games, how they end, huffing, and moves taken back. */
public final class GameTest {
    private static final Class<IndexOutOfBoundsException> INDEX = IndexOutOfBoundsException.class;
    private static final Class<IllegalStateException> STATE = IllegalStateException.class;
    private static final Class<UnsupportedOperationException> UNSUPPORTED = UnsupportedOperationException.class;
    private static final Class<java.util.NoSuchElementException> NONE = java.util.NoSuchElementException.class;

    public static void main(String[] args) {
        play();
        playWrongly();
        full();
        move();
        why();
        huff();
        huffOne();
        huffNot();
        huffAndDraws();
        back();
        backFromDraws();
        won();
        wonByKings();
        calmDraw();
        repeatedDraw();
        calm();
        seen();
        Check.end();
    }

    private static void play() {
        Huffboard board = Boards.of(6, "m13 M10 M1");
        Check.same("18: a capture", 'p', board.play(0));
        Check.same("18: what is left", "-M----m-----------", Boards.pieces(board));
        Check.same("18: who moves", 1, board.side());
        Check.same("18: a step", 'p', board.play(1));
        Check.same("18: what stands", "-----Mm-----------", Boards.pieces(board));
        Check.same("18: another", 'p', board.play(0));
        Check.same("18: away", 'p', board.play(0));
        Check.same("18: a crowning", 'p', board.play(0));
        Check.same("18: the king", "k------M----------", Boards.pieces(board));
        Check.same("25: kept", 5, board.played());
        Huffboard last = Boards.of(6, "m13 M10");
        Check.same("18: the last piece", '0', last.play(0));
        last = Boards.of(6, "M4 m7");
        last.turn(1);
        Check.same("18: the last piece of 0", '1', last.play(0));
        last = Boards.of(6, "9=1", "k15 K2");
        Check.same("18: a draw", 'd', last.play(0));
    }

    private static void playWrongly() {
        Huffboard board = Boards.of(6, "m13 M4");
        Check.fails("18: no move 2", INDEX, board, () -> board.play(2));
        Check.fails("18: no move -1", INDEX, board, () -> board.play(-1));
        board.play(0);
        board.play(0);
        Check.same("18: captures it", '0', board.play(0));
        Check.fails("18: the game is over", INDEX, board, () -> board.play(0));
    }

    private static void full() {
        Huffboard board = Boards.toAndFro("", 120);
        Check.same("25: 120", 120, board.played());
        Check.same("26: goes on", 'p', board.state());
        Check.same("27: calm", 120, board.calm());
        Check.same("28: seen", 31, board.seen());
        Check.fails("18: 120 are kept", STATE, board, () -> board.play(0));
        Check.fails("18: 120 are kept, no move", INDEX, board, () -> board.play(1));
        Check.fails("20: 120 are kept", STATE, board, () -> board.move(15, 12));
        Check.fails("20: 120 are kept, no field", INDEX, board, () -> board.move(15, 18));
        Check.fails("21: that is no refusal", NONE, board, board::why);
        Check.fails("42: 120 are kept", STATE, board, () -> board.draw(1, 1));
        Check.same("42: none is drawn", 0, board.draw(1, 0));
        Check.same("20: no move, 120 kept", "UnsupportedOperationException", refused(board, 15, 9));
        Check.same("24: taken back", 119, board.back());
        Check.same("42: one is drawn", 1, board.draw(1, 1));
        board.back();
        Check.fails("42: one too many", STATE, board, () -> board.draw(1, 2));
        Check.same("18: goes on", 'p', board.play(0));
        for (int left = 119; left >= 0; left--) {
            Check.same("24: left", left, board.back());
        }
        Check.same("24: as it was", "--K------------k--", Boards.pieces(board));
    }

    private static String refused(Huffboard board, int from, int to) {
        try {
            return String.valueOf(board.move(from, to));
        } catch (RuntimeException e) {
            return e.getClass().getSimpleName();
        }
    }

    private static void move() {
        Huffboard board = Boards.of(6, "m13 M4");
        Check.same("20: played", 'p', board.move(13, 11));
        Check.same("20: stands", "----M------m------", Boards.pieces(board));
        Check.same("20: of the other side", "UnsupportedOperationException", refused(board, 11, 8));
        Check.same("20: nothing moved", "----M------m------", Boards.pieces(board));
        Check.same("20: nothing kept", 1, board.played());
        Check.same("20: on", 'p', board.move(4, 7));
        Check.same("20: the last one", '0', board.move(11, 4));
        Check.fails("20: from 18", INDEX, board, () -> board.move(18, 4));
        Check.fails("20: from -1", INDEX, board, () -> board.move(-1, 4));
        Check.fails("20: to 18", INDEX, board, () -> board.move(4, 18));
        Check.fails("20: to -1", INDEX, board, () -> board.move(4, -1));
        Huffboard round = Boards.of(6, "k16 M6 M7 M12 M13");
        Check.same("20: round", '0', round.move(16, 16));
        Check.same("20: where it ends", "----------------k-", Boards.pieces(round));
    }

    private static char whyNot(Huffboard board, int from, int to) {
        Check.same("21: refused", "UnsupportedOperationException", refused(board, from, to));
        return board.why();
    }

    private static void why() {
        Huffboard board = Boards.of(6, "m13 M10");
        Check.fails("21: none refused", NONE, board, board::why);
        Check.same("21: one must capture", 'c', whyNot(board, 13, 11));
        Check.same("21: no such move", 'n', whyNot(board, 13, 7));
        Check.same("21: of the other side", 'n', whyNot(board, 10, 12));
        Check.same("21: itself", 'n', whyNot(board, 13, 13));
        Check.same("20: played at last", '0', board.move(13, 6));
        Check.same("21: the last refusal stays", 'n', board.why());
        Check.same("21: the game is over", 'o', whyNot(board, 6, 3));
        board.board(6);
        Check.same("21: also on another board", 'o', board.why());
        Check.same("21: several", 'd', whyNot(Boards.of(6, "m16 M6 M7 M12 M13"), 16, 4));
        Check.same("21: by law 2", 'c', whyNot(Boards.of(8, "2=1", "m19 K15 m28 M24 M17"), 19, 10));
        Check.same("21: by law 3", 'c', whyNot(Boards.of(6, "3=1", "k2 M5 m15 M12"), 15, 10));
        Check.same("21: by law 2, law 6 aside", 'c', whyNot(Boards.of(6, "2=1 6=0", "m14 M11 m15 M12 M6"), 14, 7));
        Check.same("21: where a capture goes on", 'n', whyNot(Boards.of(6, "m16 M13 M7"), 16, 11));
        Check.same("21: drawn", 'o', whyNot(Boards.of(6, "10=1", "m13"), 13, 10));
        Huffboard other = Boards.of(6, "m13");
        Check.fails("21: no such field is no refusal", INDEX, other, () -> other.move(13, 99));
        Check.fails("21: still none refused", NONE, other, other::why);
    }

    private static void huff() {
        Huffboard board = Boards.of(6, "6=0", "m13 M10 m17 K2");
        Check.same("23: ahead of the first move", 0, board.huffs());
        board.move(13, 11);
        Check.same("23: one", 1, board.huffs());
        Check.fails("22: where it was", UNSUPPORTED, board, () -> board.huff(13));
        Check.fails("22: one that could not capture", UNSUPPORTED, board, () -> board.huff(17));
        Check.fails("22: one of its own", UNSUPPORTED, board, () -> board.huff(10));
        Check.fails("22: field 18", INDEX, board, () -> board.huff(18));
        Check.fails("22: field -1", INDEX, board, () -> board.huff(-1));
        Check.same("22: huffed", 'p', board.huff(11));
        Check.same("22: taken off", "--K-------M------m", Boards.pieces(board));
        Check.same("22: who moves", 1, board.side());
        Check.same("25: belongs to the move", 1, board.played());
        Check.same("23: once", 0, board.huffs());
        Check.fails("22: once", UNSUPPORTED, board, () -> board.huff(11));
        board.move(2, 5);
        Check.same("23: no capture was there", 0, board.huffs());
        board.back();
        Check.same("23: it stays huffed", 0, board.huffs());
        Check.same("24: with the move", 0, board.back());
        Check.same("24: all is there again", "--K-------M--m---m", Boards.pieces(board));
        board.move(13, 11);
        Check.same("23: once more", 1, board.huffs());
        board.move(2, 5);
        Check.same("23: too late", 0, board.huffs());
        Check.fails("22: too late", UNSUPPORTED, board, () -> board.huff(11));
    }

    private static void huffOne() {
        Huffboard board = Boards.of(6, "6=0", "m12 m13 M10 M0");
        board.move(12, 9);
        Check.same("23: either", 2, board.huffs());
        Check.same("22: the one that did not move", 'p', board.huff(13));
        Check.same("22: taken off", "M--------mM-------", Boards.pieces(board));
        board.back();
        board.move(12, 9);
        Check.same("22: the one that moved", 'p', board.huff(9));
        Check.same("22: taken off too", "M---------M--m----", Boards.pieces(board));
        board = Boards.of(6, "6=0 2=1", "m14 M11 m15 M12 M6 m17");
        board.move(17, 13);
        Check.same("23: by an allowed capture", 1, board.huffs());
        Check.same("22: by law 2", 'p', board.huff(15));
        board = Boards.of(6, "6=0", "M10 m13 k0");
        board.turn(1);
        board.move(10, 12);
        Check.same("22: the last piece", 'p', board.huff(12));
        Check.same("26: and behind the next move", '0', board.play(0));
    }

    private static void huffNot() {
        Huffboard board = Boards.of(6, "6=0", "m13 M10 K2");
        board.move(13, 6);
        Check.same("23: a capture was played", 0, board.huffs());
        board = Boards.of(6, "6=0", "m13 K2");
        board.move(13, 11);
        Check.same("23: there was no capture", 0, board.huffs());
        Huffboard over = Boards.of(6, "6=0 8=1", "m13 M10 k2 K17");
        over.move(13, 11);
        Check.same("23: the game is over", 0, over.huffs());
        Check.fails("22: the game is over", UNSUPPORTED, over, () -> over.huff(11));
        Huffboard drawn = Boards.of(6, "6=0 9=1", "k13 M10 K2");
        drawn.move(13, 11);
        Check.same("23: drawn", 0, drawn.huffs());
        Check.fails("22: drawn", UNSUPPORTED, drawn, () -> drawn.huff(11));
    }

    private static void huffAndDraws() {
        Huffboard board = Boards.of(6, "6=0 9=3", "k15 M12 k8 K0");
        board.move(8, 5);
        Check.same("27: calm", 1, board.calm());
        Check.same("23: the king", 1, board.huffs());
        Check.same("22: the king", 'p', board.huff(15));
        Check.same("27: stays calm", 1, board.calm());
        Check.same("28: the position is another one", 1, board.seen());
        board.move(0, 3);
        Check.same("27: goes on", 2, board.calm());
        Check.same("26: drawn", 'd', board.move(5, 8));
        board.back();
        board.back();
        board.back();
        Check.same("27: none", 0, board.calm());
        Check.same("24: the king is there", 'k', board.at(15));
        Huffboard twice = Boards.of(6, "6=0 10=2", "k8 k15 M12 K0 K2");
        twice.move(8, 11);
        twice.huff(15);
        twice.move(0, 3);
        twice.move(11, 8);
        twice.move(3, 0);
        Check.same("26: the position behind the huffed move", 'd', twice.move(8, 11));
        Check.same("28: twice", 2, twice.seen());
    }

    private static void back() {
        Huffboard board = Boards.of(6, "5=1", "m6 M4 M5 M9 k17");
        Check.fails("24: none", NONE, board, board::back);
        String before = Boards.print(board);
        board.play(0);
        Check.same("24: crowned", 'k', board.at(8));
        String behind = Boards.print(board);
        board.play(0);
        Check.same("24: one left", 1, board.back());
        Check.same("24: as it was behind the first", behind, Boards.print(board));
        Check.same("24: none left", 0, board.back());
        Check.same("24: as it was", before, Boards.print(board));
        Check.fails("24: none again", NONE, board, board::back);
        Check.same("25: none", 0, board.played());
    }

    private static void backFromDraws() {
        Huffboard board = Boards.of(6, "9=2", "k15 K2");
        board.move(15, 12);
        Check.same("26: drawn", 'd', board.move(2, 5));
        Check.same("12: no moves", 0, board.moves());
        board.back();
        Check.same("26: not drawn", 'p', board.state());
        Check.same("27: one", 1, board.calm());
        Check.same("12: moves again", 1, board.moves());
    }

    private static void won() {
        Check.same("26: no pieces", '1', Boards.of(6, "M4").state());
        Check.same("26: by law 7", '0', Boards.of(6, "7=1", "M4").state());
        Huffboard board = Boards.of(6, "m13");
        board.turn(1);
        Check.same("26: 1 has none", '0', board.state());
        Check.same("12: no moves", 0, board.moves());
        board.law(7, 1);
        Check.same("26: 1 has none, law 7", '1', board.state());
        Check.same("26: shut in", '1', Boards.of(6, "m9 M6 M4").state());
        Check.same("26: shut in, law 7", '0', Boards.of(6, "7=1", "m9 M6 M4").state());
        board = Boards.of(6, "m9 M6 M1");
        board.turn(1);
        Check.same("26: shut in by a move", '1', board.move(1, 4));
        board.back();
        board.law(7, 1);
        Check.same("26: shut in by a move, law 7", '0', board.move(1, 4));
    }

    private static void wonByKings() {
        Huffboard board = Boards.of(6, "8=1", "m3 m13 M8 K14");
        Check.same("26: not ahead of the first move", 'p', board.state());
        Check.same("26: no king", 'p', board.move(13, 10));
        Check.same("26: a king", '1', board.move(8, 11));
        Check.same("12: no moves", 0, board.moves());
        board.back();
        board.back();
        Check.same("26: again not", 'p', board.state());
        Check.same("26: a new king", '0', board.move(3, 0));
        board = Boards.of(6, "8=1", "k13 M10");
        Check.same("26: law 8 and no moves", '0', board.play(0));
        board = Boards.of(6, "7=1 8=1", "k13 M10");
        Check.same("26: law 8 ahead of law 7", '0', board.play(0));
        board = Boards.of(6, "7=1 8=1", "m13 M10");
        Check.same("26: law 7 without kings", '1', board.play(0));
        board = Boards.of(6, "8=1 9=1", "k15 K2");
        Check.same("26: law 8 ahead of law 9", '0', board.play(0));
    }

    private static void calmDraw() {
        Huffboard board = Boards.of(6, "9=3", "k15 K2 m17 M0");
        board.move(15, 12);
        board.move(2, 5);
        Check.same("26: two are too few", 'p', board.state());
        Check.same("26: a third one", 'd', board.move(12, 15));
        board.back();
        Check.same("26: by a man", 'p', board.move(17, 14));
        Check.same("27: none then", 0, board.calm());
        Check.same("26: one", 'p', board.move(5, 2));
        Check.same("26: two", 'p', board.move(12, 15));
        Check.same("26: three", 'd', board.move(2, 5));
        Check.same("26: law 9 is 0", 'p', Boards.toAndFro("9=0", 120).state());
        Check.same("26: law 9 is 1", 'd', Boards.of(6, "9=1", "k15 K2").play(0));
        Huffboard shut = Boards.of(6, "9=1", "m15 m16 m9 m10 M12 k2");
        Check.same("26: a win ahead of law 9", '0', shut.move(2, 5));
    }

    private static void repeatedDraw() {
        Huffboard board = Boards.of(6, "10=2", "k15 K2");
        board.move(15, 12);
        board.move(2, 5);
        board.move(12, 15);
        Check.same("26: not yet", 'p', board.state());
        Check.same("26: the second time", 'd', board.move(5, 2));
        Check.same("28: twice", 2, board.seen());
        board = Boards.of(6, "10=3", "k15 K2");
        for (int i = 0; i < 2; i++) {
            board.move(15, 12);
            board.move(2, 5);
            board.move(12, 15);
            Check.same("26: not the third time", 'p', board.state());
            Check.same("26: back in the corners", i == 0 ? 'p' : 'd', board.move(5, 2));
        }
        Check.same("26: at once", 'd', Boards.of(6, "10=1", "k15 K2").state());
        Check.same("12: no moves at once", 0, Boards.of(6, "10=1", "k15 K2").moves());
        Check.same("26: a win ahead of law 10", '1', Boards.of(6, "10=1", "K2").state());
        Check.same("26: law 10 is 0", 'p', Boards.toAndFro("10=0", 120).state());
    }

    private static void calm() {
        Huffboard board = Boards.of(6, "k15 K2 m3 M11");
        Check.same("27: at first", 0, board.calm());
        board.move(15, 12);
        Check.same("27: one", 1, board.calm());
        board.move(2, 5);
        Check.same("27: two", 2, board.calm());
        board.move(3, 0);
        Check.same("27: a man that is crowned", 0, board.calm());
        board.move(11, 14);
        Check.same("27: a man", 0, board.calm());
        board.move(0, 3);
        Check.same("27: a king", 1, board.calm());
        board.back();
        Check.same("27: taken back", 0, board.calm());
        board = Boards.of(6, "k13 M10 M0");
        board.move(13, 6);
        Check.same("27: a capture", 0, board.calm());
    }

    private static void seen() {
        Huffboard board = Boards.of(6, "k15 K2");
        Check.same("28: at first", 1, board.seen());
        for (int i = 2; i < 5; i++) {
            board.move(15, 12);
            Check.same("28: away", i - 1, board.seen());
            board.move(2, 5);
            board.move(12, 15);
            board.move(5, 2);
            Check.same("28: again", i, board.seen());
        }
        board.back();
        board.back();
        board.back();
        board.back();
        Check.same("28: taken back", 3, board.seen());
        Huffboard tempo = Boards.of(6, "1=1", "k15 K1");
        tempo.move(15, 7);
        tempo.move(1, 9);
        tempo.move(7, 10);
        tempo.move(9, 1);
        tempo.move(10, 15);
        Check.same("28: with the other side to move", 1, tempo.seen());
        Check.same("28: the same pieces", "-K-------------k--", Boards.pieces(tempo));
    }
}
