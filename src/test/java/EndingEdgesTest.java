/** One test for each sentence that names a boundary case of tables, and of what is sound. */
public final class EndingEdgesTest extends Edges {
    public static void main(String[] args) {
        Check.all(EndingEdgesTest.class);
    }

    private static Huffboard solved(int rows, String laws, String pieces, int most) {
        Huffboard board = Boards.of(rows, laws, pieces);
        board.solve(most);
        return board;
    }

    private static String entry(Huffboard board) {
        return Boards.answer(board::value) + " " + Boards.answer(board::distance);
    }

    // Promise 30

    /** "pieces: 1 to 3"; "Returns how many positions it has." */
    static void promise30SolveTakes1To3() {
        int[] four = {56, 740, 5500};
        int[] five = {88, 1860, 23452};
        for (int pieces = 1; pieces <= 3; pieces++) {
            Check.same("4 rows, " + pieces, four[pieces - 1], Boards.of(4, "").solve(pieces));
            Check.same("5 rows, " + pieces, five[pieces - 1], Boards.of(5, "").solve(pieces));
        }
        for (int pieces : new int[] {0, 4, -1, LEAST, GREATEST}) {
            Check.refuses("set, " + pieces, ARGUMENT, Boards::set, board -> board.solve(pieces));
            Check.refuses("begun, " + pieces, ARGUMENT, Boards::begun, board -> board.solve(pieces));
        }
    }

    /** "boards with at most 13 fields alone"; "Throws UnsupportedOperationException". */
    static void promise30SolveTakesBoardsOf4And5Rows() {
        for (int i = 6; i <= 8; i++) {
            int rows = i;
            for (int pieces = 1; pieces <= 3; pieces++) {
                int asked = pieces;
                Check.refuses(rows + " rows", UNSUPPORTED, () -> Boards.of(rows, "k8 M1"), board -> board.solve(asked));
            }
        }
        Check.refuses("a new board", UNSUPPORTED, Huffboard::new, board -> board.solve(1));
    }

    /** "If several exceptions apply, the one that is listed first is thrown." */
    static void promise30SolveThrowsTheFirstOfSeveral() {
        for (int pieces : new int[] {0, 4, LEAST, GREATEST}) {
            Check.refuses("6 rows, " + pieces, ARGUMENT, Huffboard::new, board -> board.solve(pieces));
        }
    }

    /** "for all positions with at most so many pieces, one at least". */
    static void promise30SolveFrom1PieceToAsManyAsTold() {
        String[] pieces = {"", "k6", "k6 K0", "k6 K0 m7", "k6 K0 m7 m5"};
        for (int most = 1; most <= 3; most++) {
            for (int number = 0; number < pieces.length; number++) {
                Huffboard board = solved(4, "", pieces[number], most);
                boolean isIn = number >= 1 && number <= most;
                Check.same(number + " of " + most, !isIn, "NoSuchElementException".equals(Boards.answer(board::value)));
            }
        }
    }

    /** "also of one side alone"; "either side to move". */
    static void promise30SolveOfOneSideAlone() {
        for (String pieces : new String[] {"k6", "M1", "k6 m7 k0", "M1 M2 K7"}) {
            Huffboard board = solved(4, "", pieces, 3);
            boolean isSouth = board.pieces(1, true) + board.pieces(1, false) == 0;
            Check.same(pieces + ", the side 0 moves", isSouth ? "w 1" : "l 0", entry(board));
            board.turn(1);
            Check.same(pieces + ", the side 1 moves", isSouth ? "l 0" : "w 1", entry(board));
        }
    }

    /** "men not on their last rows": of the fields of 4 rows, half have one kind less. */
    static void promise30SolveWithMenNotOnTheirLastRows() {
        Huffboard board = solved(4, "", "", 1);
        Check.same("one piece", 2 * (4 * 4 + 4 * 3), board.count('w', 1) + board.count('l', 1) + board.count('d', 1));
        Check.same("5 rows", 2 * (8 * 4 + 4 * 3), Boards.of(5, "").solve(1));
    }

    /** "the laws 9 and 10 and huffing aside": draws. */
    static void promise30SolveLeavesDrawsAside() {
        String due = counts(solved(4, "", "", 3));
        Check.same("law 9", due, counts(solved(4, "9=1", "", 3)));
        Check.same("law 10", due, counts(solved(4, "10=1", "", 3)));
        Check.same("a drawn game", "w 3", entry(solved(4, "10=1", "m7 M1", 2)));
    }

    /** "and huffing aside". */
    static void promise30SolveLeavesHuffingAside() {
        Huffboard board = Boards.begun();
        Check.same("it can be huffed", 1, board.huffs());
        String ahead = entry(board);
        board.huff(5);
        board.back();
        board.move(7, 5);
        Check.same("whether it was or not", ahead, entry(board));
    }

    private static String counts(Huffboard board) {
        StringBuilder text = new StringBuilder().append(board.longest());
        for (char value : "wld".toCharArray()) {
            for (int pieces = 1; pieces <= 3; pieces++) {
                int asked = pieces;
                text.append(' ').append(Boards.answer(() -> board.count(value, asked)));
            }
        }
        return text.toString();
    }

    /** A table takes the place of the one before, be it greater or less, of other laws or of another board. */
    static void promise30SolveTakesThePlaceOfTheTableBefore() {
        Huffboard board = Boards.of(5, "");
        int[] rows = {5, 5, 4, 5, 4, 4, 5};
        int[] pieces = {1, 3, 3, 2, 1, 3, 3};
        String[] laws = {"", "1=1", "1=1 7=1", "1=1 7=1", "1=1 7=1 6=0", "1=0 7=0 6=1", "0=1"};
        String all = "";
        for (int i = 0; i < rows.length; i++) {
            board.board(rows[i]);
            for (String law : laws[i].split(" ")) {
                if (!law.isEmpty()) {
                    board.law(law.charAt(0) - '0', law.charAt(2) - '0');
                }
            }
            all += " " + laws[i];
            board.solve(pieces[i]);
            Huffboard fresh = Boards.of(rows[i], all.trim().replaceAll(" +", " "), "");
            fresh.solve(pieces[i]);
            Check.same("table " + i, counts(fresh), counts(board));
        }
    }

    /** "It is gone as the board is laid anew". */
    static void promise30SolveIsGoneAsTheBoardIsLaid() {
        Huffboard board = Boards.set();
        board.board(4);
        Check.same("as many rows", "IllegalStateException", Boards.answer(board::longest));
        board.solve(1);
        board.board(5);
        Check.same("more rows", "IllegalStateException", Boards.answer(board::longest));
    }

    /** "or a law of 0 to 8 gets another value": each of them, also if it gets its own one back. */
    static void promise30SolveIsGoneAsALawOf0To8IsAnother() {
        for (int law = 0; law <= 8; law++) {
            Huffboard board = solved(4, "", "", 1);
            int before = law == 6 ? 1 : 0;
            board.law(law, before);
            Check.same("the same value of " + law, true, board.longest() >= 0);
            board.law(law, 1 - before);
            Check.same("another value of " + law, "IllegalStateException", Boards.answer(board::longest));
            board.law(law, before);
            Check.same("the old value of " + law, "IllegalStateException", Boards.answer(board::longest));
        }
        for (int law = 2; law <= 5; law += 3) {
            Huffboard board = solved(4, law + "=1", "", 1);
            board.law(law, 2);
            Check.same("2 in place of 1 of " + law, "IllegalStateException", Boards.answer(board::longest));
        }
    }

    /** Another value of the laws 9 and 10 leaves it. */
    static void promise30SolveStaysAsLaws9And10AreOthers() {
        Huffboard board = solved(4, "", "m7 M1", 2);
        board.law(9, 99);
        board.law(10, 5);
        Check.same("it stays", "w 3", entry(board));
    }

    /** Nothing else takes it away: pieces, turns, moves, huffing, openings, claims, bars, calls that are refused. */
    static void promise30SolveStaysOtherwise() {
        Huffboard board = Boards.set();
        String due = counts(board);
        board.put(0, 'K');
        board.fill(1);
        board.turn(1);
        board.draw(7, 3);
        board.back();
        board.claim('d');
        board.bar(3, 3);
        board.unbar();
        Boards.answer(() -> board.board(9));
        Boards.answer(() -> board.law(0, 1));
        Boards.answer(() -> board.solve(4));
        board.isSound();
        Check.same("it stays", due, counts(board));
        Huffboard huffed = Boards.begun();
        huffed.huff(5);
        Check.same("behind huffing", due, counts(huffed));
    }

    /** Solving leaves the game as it is. */
    static void promise30SolveLeavesTheGame() {
        Huffboard board = Boards.of(4, "6=0", "m7 M4 k1");
        board.move(7, 5);
        String before = Boards.print(board).replaceAll(" table.*", "");
        board.solve(3);
        Check.same("in a game", before, Boards.print(board).replaceAll(" table.*", ""));
    }

    // Promises 31 and 32

    /** "Throws IllegalStateException if there is no table", ahead of the other one. */
    static void promise31ValueWithoutATable() {
        Check.refuses("a position", STATE, () -> Boards.of(4, "m7 M1"), Huffboard::value);
        Check.refuses("nothing there", STATE, Huffboard::new, Huffboard::value);
        Check.refuses("a greater board", STATE, () -> Boards.of(8, "m28 M1"), Huffboard::value);
    }

    /** "Throws NoSuchElementException if the position is not in it": no pieces, or more than it has. */
    static void promise31ValueOfAPositionThatIsNotInTheTable() {
        Check.refuses("nothing there", NONE, () -> solved(4, "", "", 3), Huffboard::value);
        for (int pieces = 1; pieces <= 3; pieces++) {
            int most = pieces;
            String all = "m7 M1 k6 K0".substring(0, 3 * most);
            String more = "m7 M1 k6 K0".substring(0, 3 * most + 2);
            Check.refuses("one more than " + most, NONE, () -> solved(4, "", more, most), Huffboard::value);
            Check.yes("just " + most, "wld".indexOf(solved(4, "", all.trim(), most).value()) >= 0);
        }
    }

    /** "Returns w, l or d": also as the game is over by law 8 alone for the table. */
    static void promise31ValueOfEachKind() {
        Check.same("won", 'w', solved(4, "", "m7 M1", 2).value());
        Check.same("lost", 'l', solved(4, "", "M1", 2).value());
        Check.same("drawn", 'd', solved(4, "", "k7 K0", 2).value());
        Huffboard board = solved(4, "8=1", "m7 K1", 2);
        Check.same("the game goes on", 'p', board.state());
        Check.same("the side that does not move counts as one that moved", 'l', board.value());
    }

    /** "Throws IllegalStateException if there is no table", ahead of the other one. */
    static void promise32DistanceWithoutATable() {
        Check.refuses("a position", STATE, () -> Boards.of(4, "m7 M1"), Huffboard::distance);
        Check.refuses("nothing there", STATE, Huffboard::new, Huffboard::distance);
    }

    /** "Throws NoSuchElementException if the position is not in it": no pieces, or more than it has. */
    static void promise32DistanceOfAPositionThatIsNotInTheTable() {
        Check.refuses("nothing there", NONE, () -> solved(4, "", "", 3), Huffboard::distance);
        Check.refuses("one more than 1", NONE, () -> solved(4, "", "m7 M1", 1), Huffboard::distance);
        Check.refuses("one more than 3", NONE, () -> solved(4, "", "m7 M1 k6 K0", 3), Huffboard::distance);
    }

    /** "Returns how many, -1 for a drawn one". */
    static void promise32DistanceIsMinus1ForADrawnOne() {
        Check.same("kings in corners", -1, solved(4, "", "k7 K0", 2).distance());
        Check.same("and by the side 1", "d -1", entry(solvedTurned("", "k7 K0")));
    }

    private static Huffboard solvedTurned(String laws, String pieces) {
        Huffboard board = solved(4, laws, pieces, 3);
        board.turn(1);
        return board;
    }

    /** "lost in 0 moves if the game is over and lost". */
    static void promise32DistanceIs0WhereItIsLostAlready() {
        Check.same("no pieces", "l 0", entry(solved(4, "", "M1", 1)));
        Check.same("shut in", "l 0", entry(solved(4, "", "m6 M4 M3", 3)));
        Check.same("by law 8", "l 0", entry(solved(4, "8=1", "m7 K1", 2)));
        Check.same("by law 8 ahead of law 7", "l 0", entry(solved(4, "7=1 8=1", "K1", 2)));
    }

    /** "won in 0 likewise". */
    static void promise32DistanceIs0WhereItIsWonAlready() {
        Check.same("no pieces", "w 0", entry(solved(4, "7=1", "M1", 1)));
        Check.same("shut in", "w 0", entry(solved(4, "7=1", "m6 M4 M3", 3)));
        Check.same("no pieces against a man, laws 7 and 8", "w 0", entry(solved(4, "7=1 8=1", "M1", 1)));
    }

    /** "won in n moves if some move leads to one lost, the least n being 1 more than the least of these". */
    static void promise32DistanceOfAWonOneIsTheLeast() {
        Check.same("one piece", "w 1", entry(solved(5, "", "k6", 1)));
        Huffboard board = solved(5, "", "k4 m7 K0", 3);
        Check.same("lost in 12, 8 and 16 behind it", "12 8 16 ", behind(board));
        Check.same("won in 9", "w 9", entry(board));
        Huffboard other = solved(5, "", "k8 k10 M3", 3);
        Check.same("drawn, drawn, and lost in 4 and 2 behind it", "-1 -1 4 2 ", behind(other));
        Check.same("won in 3", "w 3", entry(other));
    }

    /** "lost in n if all moves lead to won ones, 1 more than the greatest". */
    static void promise32DistanceOfALostOneIsTheGreatest() {
        Huffboard board = solved(5, "", "k6 K10 M0", 3);
        Check.same("won in 1 and 5 behind it", "1 5 1 5 ", behind(board));
        Check.same("lost in 6", "l 6", entry(board));
    }

    /** "otherwise drawn": one move to a drawn one is enough, if none leads to a lost one. */
    static void promise32DistanceOfADrawnOne() {
        Huffboard board = solved(5, "", "k9 M3", 2);
        Check.same("won in 1 and drawn behind it", "1 -1 ", behind(board));
        Check.same("drawn", "d -1", entry(board));
    }

    /** The distances behind all moves, in their order. */
    private static String behind(Huffboard board) {
        StringBuilder text = new StringBuilder();
        int moves = board.moves();
        for (int i = 0; i < moves; i++) {
            board.play(i);
            text.append(board.distance()).append(' ');
            board.back();
        }
        return text.toString();
    }

    // Promise 33

    /** "Throws IllegalStateException if there is no table", ahead of the other one. */
    static void promise33CountWithoutATable() {
        Check.refuses("as it should be", STATE, Huffboard::new, board -> board.count('w', 1));
        Check.refuses("no value, no number", STATE, Huffboard::new, board -> board.count('x', 0));
    }

    /** "Throws IllegalArgumentException if there is no such value". */
    static void promise33CountOfWLAndD() {
        Huffboard board = solved(4, "", "", 2);
        for (char sign = 0; sign < 300; sign++) {
            char value = sign;
            boolean isTaken = "wld".indexOf(value) >= 0;
            Object got = Boards.answer(() -> board.count(value, 1));
            Check.same("sign " + (int) sign, !isTaken, "IllegalArgumentException".equals(got));
        }
        Check.refuses("a great letter", ARGUMENT, Boards::set, one -> one.count('W', 1));
        Check.refuses("w and a multiple of 256", ARGUMENT, Boards::set, one -> one.count((char) ('w' + 256), 1));
    }

    /** "or the table has not so many": 1 to as many as it was solved for. */
    static void promise33CountOf1ToAsManyAsTheTableHas() {
        for (int i = 1; i <= 3; i++) {
            int most = i;
            for (int pieces : new int[] {0, -1, most + 1, LEAST, GREATEST}) {
                Check.refuses(pieces + " of " + most, ARGUMENT, () -> solved(4, "", "m7", most),
                    board -> board.count('w', pieces));
            }
            Check.yes("the most of " + most, solved(4, "", "", most).count('l', most) > 0);
        }
        Huffboard less = solved(4, "", "", 3);
        less.solve(1);
        Check.same("less than before", "IllegalArgumentException", Boards.answer(() -> less.count('w', 2)));
    }

    /** "pieces: just how many pieces they have": not at most so many; none is counted twice or left out. */
    static void promise33CountOfJustSoManyPieces() {
        int[] due = {56, 740 - 56, 5500 - 740};
        Huffboard board = solved(4, "", "", 3);
        for (int pieces = 1; pieces <= 3; pieces++) {
            int sum = board.count('w', pieces) + board.count('l', pieces) + board.count('d', pieces);
            Check.same("all of " + pieces, due[pieces - 1], sum);
        }
        Check.same("none is drawn of one", 0, board.count('d', 1));
        Check.same("one side to move of one", 28, board.count('w', 1));
        Check.same("the other one", 28, board.count('l', 1));
    }

    // Promises 34 and 35

    /** "Throws IllegalStateException if there is no table". */
    static void promise34LongestWithoutATable() {
        Check.refuses("a new board", STATE, Huffboard::new, Huffboard::longest);
        Check.refuses("a position", STATE, () -> Boards.of(5, "m7 M1"), Huffboard::longest);
    }

    /** "Returns the greatest distance of a won position": 0 and 1 the least that come up; -1 never does. */
    static void promise34LongestOfTheLeastTables() {
        Check.same("one piece", 1, solved(4, "", "", 1).longest());
        Check.same("one piece, law 7", 0, solved(4, "7=1", "", 1).longest());
        Check.same("one piece, laws 7 and 8", 1, solved(4, "7=1 8=1", "", 1).longest());
        for (int laws = 0; laws < 512; laws++) {
            Huffboard board = Boards.of(4, "");
            for (int law = 0; law <= 8; law++) {
                board.law(law, laws >> law & 1);
            }
            board.solve(1);
            Check.yes("there is a won one, laws " + laws, board.count('w', 1) > 0 && board.longest() >= 0);
        }
    }

    /** "of a won position": a lost one can take longer. */
    static void promise34LongestOfWonPositionsAlone() {
        Huffboard board = solved(4, "7=1", "m7", 1);
        Check.same("lost in 1", "l 1", entry(board));
        Check.same("won in 0 at most", 0, board.longest());
    }

    /** "in the table": nothing is left of a greater one that there was before. */
    static void promise34LongestOfTheTableThatThereIs() {
        Huffboard board = Boards.of(5, "");
        for (int most = 1; most <= 3; most++) {
            board.board(5);
            board.law(7, 0);
            board.solve(most);
            board.board(4);
            board.law(7, 1);
            board.solve(1);
            Check.same("behind one of 5 rows, " + most, 0, board.longest());
        }
    }

    /** "Throws IllegalStateException if there is no table", ahead of the other one. */
    static void promise35BestWithoutATable() {
        Check.refuses("a position", STATE, () -> Boards.of(4, "m7 M1"), Huffboard::best);
        Check.refuses("nothing there", STATE, Huffboard::new, Huffboard::best);
    }

    /** "Throws NoSuchElementException if the position is not in it". */
    static void promise35BestOfAPositionThatIsNotInTheTable() {
        Check.refuses("nothing there", NONE, () -> solved(4, "", "", 3), Huffboard::best);
        Check.refuses("one more than 1", NONE, () -> solved(4, "", "m7 M1", 1), Huffboard::best);
        Check.refuses("one more than 3", NONE, () -> solved(4, "", "m7 M1 k6 K0", 3), Huffboard::best);
    }

    /** "or there is no move". */
    static void promise35BestWithoutAMove() {
        Check.refuses("no pieces", NONE, () -> solved(4, "", "M1", 1), Huffboard::best);
        Check.refuses("shut in", NONE, () -> solved(4, "", "m6 M4 M3", 3), Huffboard::best);
        Check.refuses("drawn", NONE, () -> solved(4, "10=1", "m7 M1", 2), Huffboard::best);
        Check.refuses("won by law 8", NONE, () -> {
            Huffboard board = solved(4, "8=1", "m2 M1", 2);
            board.play(0);
            return board;
        }, Huffboard::best);
    }

    /** "to one lost in the fewest moves, else to a drawn one, else to one won in the most", the first of each. */
    static void promise35BestIsTheFirstOfTheBest() {
        Check.same("lost in 12, 8, 16", 1, solved(5, "", "k4 m7 K0", 3).best());
        Check.same("drawn, drawn, lost in 4, 2", 3, solved(5, "", "k8 k10 M3", 3).best());
        Check.same("won, drawn, lost thrice in 10", 2, solved(5, "", "k1 k8 K11", 3).best());
        Check.same("won in 1, drawn", 1, solved(5, "", "k9 M3", 2).best());
        Check.same("won in 1, drawn thrice", 1, solved(5, "", "k6 K1", 2).best());
        Check.same("won in 1, 5, 1, 5", 1, solved(5, "", "k6 K10 M0", 3).best());
        Check.same("lost in 0 four times", 0, solved(5, "", "k6", 1).best());
    }

    /** The moves are those of the game: ahead of the first one law 8 does not end it. */
    static void promise35BestAheadOfTheFirstMoveByLaw8() {
        Huffboard board = solved(4, "8=1", "m7 m2 K1", 3);
        Check.same("lost by the table", "l 0", entry(board));
        Check.same("moves", "2>0+ 7>4 7>5", Boards.moves(board));
        Check.same("to one lost at once", 0, board.best());
    }

    // Promise 49

    /** "Returns true if so": without a table, with the least and the greatest one, by all laws. */
    static void promise49IsSoundWithAndWithoutATable() {
        Check.yes("a new board", new Huffboard().isSound());
        Check.yes("a full board", fullOfKings().isSound());
        for (int laws = 0; laws < 128; laws++) {
            Huffboard board = Boards.of(4, "k6 m7 K0");
            for (int law = 0; law < 7; law++) {
                board.law(law + (law > 1 ? 2 : 0), laws >> law & 1);
            }
            board.solve(1 + laws % 3);
            Check.yes("laws " + laws, board.isSound());
        }
    }

    private static Huffboard fullOfKings() {
        Huffboard board = Boards.of(8, "");
        for (int field = 0; field < 32; field++) {
            board.put(field, field % 3 == 0 ? 'k' : 'K');
        }
        return board;
    }

    /** "as many moves taken back as played make the position as it was set": none, some, huffed, 120. */
    static void promise49IsSoundInEveryGame() {
        Check.yes("set", Boards.set().isSound());
        Check.yes("begun", Boards.begun().isSound());
        Huffboard huffed = Boards.begun();
        huffed.huff(5);
        Check.yes("huffed", huffed.isSound());
        huffed.play(0);
        Check.yes("behind that", huffed.isSound());
        Huffboard full = Boards.toAndFro("6=0", "k15 K2 M4 m7", 120);
        Check.yes("120 are kept", full.isSound());
        full.huff(4);
        Check.yes("120 are kept, and huffed", full.isSound());
        Check.yes("drawn", Boards.toAndFro("9=4", 4).isSound());
    }

    /** Asking whether all is sound changes nothing. */
    static void promise49IsSoundChangesNothing() {
        Huffboard board = Boards.begun();
        board.huff(5);
        String before = Boards.print(board);
        board.isSound();
        Check.same("huffed", before, Boards.print(board));
        Huffboard asked = Boards.set();
        asked.isSound();
        Check.same("set", Boards.whole(Boards.set()), Boards.whole(asked));
    }
}
