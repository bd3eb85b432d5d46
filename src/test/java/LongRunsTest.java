/**
 * Games that go on for many calls on one board, in which laws, boards, games, tables, books and barred moves follow
 * each other, up to the last call that is promised: the 512th.
 */
public final class LongRunsTest {
    public static void main(String[] args) {
        Check.all(LongRunsTest.class);
    }

    /** Two kings in far corners of 6 rows go to and fro once, and so do two others from there on. */
    private static final String ROUND = "move 15 12; move 2 5; move 12 15; move 5 2";

    /** "An object is used for at most 512 calls after it has been made": all kinds of them, one behind the other. */
    static void boardsFollowEachOther() {
        Story story = new Story("boards");
        story.tell("""
            fields = 18; moves = 0; state = 1; solve 1 = UnsupportedOperation; why = NoSuchElement;
            back = NoSuchElement;
            fill 2 = 12; moves = 5; lines 2 = 25; bar 12 9 = 1; draw 1 4 = 4; played = 4;
            checksum = 2491533853598528251; at 9 = -; isSound = true;
            back = 3; back = 2; back = 1; back = 0; back = NoSuchElement; checksum = 4854522204020339072;
            law 9 2 = 0; law 0 1 = 0; turn 1 = 0; side = 1; law 9 0 = 2;
            """);
        story.tell("""
            board 4 = 8; put 7 m = -; put 1 M = -; solve 2 = 740; value = w; distance = 3; best = 0; keys 3 = 2;
            keyAt 3 0 = 0; duals 3 = 1; proves 2 = false; proves 3 = true;
            claim l = 1; refuted = 1; bar 7 4 = 2; draw 5 1 = 1; at 5 = m; value = l; claim w = 2; refuted = 2;
            value = l; side = 1; back = 0; refuted = 2;
            law 6 0 = 1; value = IllegalState; refuted = 0; law 6 1 = 0; refuted = 0; solve 1 = 56; refuted = 0;
            value = NoSuchElement; count w 2 = IllegalArgument; solve 3 = 5500; refuted = 2; value = w;
            longest = 11; isSound = true;
            bar 7 4 = UnsupportedOperation; bar 7 5 = 3; draw 5 1 = 0; unbar = 3; draw 5 1 = 1;
            move 1 2 = UnsupportedOperation; why = n; told 1 2 = 0; told 1 3 = 1; why = n; back = 0; why = n;
            """);
        story.tell("""
            board 5 = 12; why = n; refuted = 0; claim d = 1; value = IllegalState; put 9 k = -; put 2 K = -;
            turn 1 = 0; solve 2 = 1860; value = d; best = 0; claim w = 2; refuted = 1; bar 2 0 = 1;
            law 10 2 = 0; value = d; move 2 0 = p; move 9 11 = p; seen = 1; move 0 2 = p; move 11 9 = d;
            state = d; seen = 2; calm = 4; moves = 0; value = d; best = NoSuchElement; lines 1 = 2; lines 2 = 4;
            meanMoves = Arithmetic;
            draw 4 2 = 0; move 9 11 = UnsupportedOperation; why = o; back = 3; state = p; draw 4 2 = 1;
            played = 4; law 10 0 = UnsupportedOperation; back = 3; back = 2; back = 1; back = 0;
            back = NoSuchElement; law 10 0 = 2; value = d; solve 1 = 88; value = NoSuchElement; refuted = 0;
            """);
        story.tell("""
            board 8 = 32; law 0 0 = 1; law 1 1 = 0; law 4 1 = 0; fill 3 = 24; moves = 7; lines 3 = 302;
            draw 77 6 = 6; played = 6; checksum = 3229637990452298910; solve 1 = UnsupportedOperation;
            refuted = 0; claim d = 1;
            sources = 3; meanMoves = 2.6666666666666665; told 21 17 = 0; calm = 0; seen = 1; state = p; back = 5;
            back = 4; back = 3; back = 2; back = 1; back = 0; back = NoSuchElement; moves = 7;
            fill 0 = 0; put 28 k = -; put 24 M = -; put 14 M = -; put 5 K = -; moves = 3; captured 0 = 2;
            captures 0 14 = true; to 0 = 3; told 28 3 = 1; play 0 = p; state = p; at 24 = -; pieces 1 false = 0;
            pieces 1 true = 1; crownShare = 1.0; back = 0; isSound = true;
            bar 28 3 = 2; bar 28 0 = 3; unbar = 3;
            """);
        story.tell("""
            board 6 = 18; law 1 0 = 1; law 4 0 = 1; law 6 0 = 1; put 13 m = -; put 10 M = -; put 17 m = -;
            put 2 K = -; moves = 3; move 13 11 = p; huffs = 1; huff 13 = UnsupportedOperation; huff 11 = p;
            huffs = 0; huff 11 = UnsupportedOperation; state = p; played = 1; move 10 14 = UnsupportedOperation;
            huffs = 0; captured 0 = 0; back = 0; back = NoSuchElement; at 13 = m; huffs = 0;
            move 17 14 = p; huffs = 1; huff 13 = p; seen = 1; calm = 0; back = 0; move 13 6 = p; huffs = 0;
            state = p; back = 0; isSound = true; law 8 1 = 0; move 13 11 = p; state = p; huffs = 1; move 2 5 = 1;
            state = 1; back = 1; state = p; back = 0; law 8 0 = 1; law 6 1 = 0;
            told 13 11 = 0; move 13 11 = UnsupportedOperation; why = c; told 13 6 = 1; move 13 6 = p; state = p;
            why = c; move 2 5 = p; back = 1; back = 0; at 10 = M; back = NoSuchElement;
            """);
        Check.same("calls", 230, story.calls());
        story.tell("put 13 -; put 17 -; put 10 -; put 15 k; law 9 0; law 10 5");
        story.times(4, ROUND + "; seen");
        story.tell("state = d; calm = 16; move 15 12 = UnsupportedOperation; why = o; play 0 = IndexOutOfBounds");
        story.times(16, "back");
        story.tell("played = 0; law 10 0 = 5; claim d = 1; claim l = 2; bar 15 12 = 1; draw 9 6 = 0; unbar = 1");
        story.times(30, ROUND);
        story.tell("play 0 = IllegalState; draw 1 1 = IllegalState; draw 1 0 = 0; seen = 31; calm = 120; state = p");
        story.until(4, "back");
        story.end("isSound = true; refuted = 0; side; checksum");
    }

    /** A table for each law, again and again; it is gone with every other value, and the claims are judged anew. */
    static void tablesFollowEachOther() {
        Story story = new Story("tables");
        story.tell("board 4 = 8; put 7 m; put 1 M; put 6 k; claim w = 1; claim l = 2; claim d = 3");
        int[] won = {1898, 2252, 1850, 1850, 1850, 1850, 1818, 2596, 1584};
        int[] longest = {11, 25, 11, 11, 11, 11, 9, 12, 5};
        for (int round = 0; round < 3; round++) {
            for (int law = 0; law <= 8; law++) {
                int before = law == 6 ? 1 : 0;
                story.tell("law " + law + " " + (1 - before) + " = " + before);
                story.tell("value = IllegalState; refuted = 0; solve 3 = 5500");
                story.tell("count w 3 = " + won[law] + "; longest = " + longest[law]);
                story.tell("value = " + (law == 7 ? "l" : "w") + "; distance = " + (law == 8 ? 1 : 3));
                story.tell("refuted = 2; best = 0; isSound = true");
                story.tell("law " + law + " " + before + " = " + (1 - before) + "; value = IllegalState");
            }
            story.tell("solve " + (1 + round % 3) + "; value; count w 1 = 28; refuted; count d 3; law 9 3; law 10 2");
            story.tell("value; play 0 = p; value; refuted; back = 0; law 9 0 = 3; law 10 0 = 2");
        }
        story.times(20, "solve 2 = 740; longest = 5; solve 1 = 56; longest = 1").until(6, "value");
        story.end("solve 3 = 5500; refuted = 2; count d 3 = 1550; value = w; best = 0; isSound = true");
    }

    /** Tables of both boards that can have one, the greater ones and the smaller ones in turn. */
    static void tablesOfTwoBoardsFollowEachOther() {
        Story story = new Story("two boards");
        int[] four = {56, 740, 5500};
        int[] five = {88, 1860};
        for (int round = 0; story.calls() < Story.LAST - 30; round++) {
            int most = 1 + round % 3;
            story.tell("board 4 = 8; value = IllegalState; put 7 k; put 0 K; claim w = 1; claim d = 2");
            story.tell("law 1 " + round / 2 % 2 + "; solve " + most + " = " + four[most - 1] + "; value; refuted");
            story.tell("board 5 = 12; refuted = 0; value = IllegalState; put 9 k; put 3 M; claim l = 1");
            story.tell("solve " + (1 + round % 2) + " = " + five[round % 2] + "; value; refuted; distance; best");
            story.tell("play 1; value; distance; count l 1; back");
        }
        story.until(1, "longest");
        story.end("isSound = true");
    }

    /** Games on one board follow each other, with huffing at the same move and at others. */
    static void gamesWithHuffingFollowEachOther() {
        Story story = new Story("huffing");
        story.tell("""
            board 6 = 18; law 6 0 = 1; put 12 m = -; put 13 m = -; put 10 M = -; put 0 M = -; move 12 9 = p;
            huffs = 2; huff 13 = p; huffs = 0; seen = 1; back = 0; move 12 9 = p; huffs = 2; huff 9 = p;
            state = p; back = 0; at 9 = -; at 12 = m; at 13 = m;
            """);
        story.tell("""
            law 6 1 = 0; huffs = 0; move 12 9 = UnsupportedOperation; told 12 7 = 1; move 12 7 = p; huffs = 0;
            state = p; back = 0;
            """);
        story.tell("""
            law 6 0 = 1; put 2 K = -; put 17 k = -; move 17 14 = p; huffs = 2; huff 12 = p; calm = 1;
            move 2 5 = p; calm = 2; huffs = 1; move 14 17 = p; calm = 3; huffs = 1; huff 13 = p; move 5 2 = p;
            calm = 4; seen = 1; played = 4; back = 3; back = 2; huffs = 1; back = 1; back = 0; huffs = 0;
            at 12 = m;
            """);
        story.tell("""
            move 12 9 = p; huffs = 2; huff 13 = p; move 2 5 = p; move 9 6 = p; huffs = 0; played = 3; back = 2;
            back = 1; huffs = 0; back = 0; huffs = 0; move 12 9 = p; huffs = 2; huff 13 = p;
            huff 9 = UnsupportedOperation;
            """);
        story.tell("played; back = 0; state = p");
        for (int round = 0; story.calls() < Story.LAST - 40; round++) {
            story.tell("law 2 " + round % 3 + "; law 6 0; move 12 9; huffs; huff " + (round % 2 == 0 ? 9 : 13));
            story.tell("huffs = 0; seen = 1; calm = 0; moves; told 10 17; play 0; huffs; played = 2; play 0; huffs");
            story.tell("back; back = 1; huffs = 0; at 9; at 13; back = 0; at 12 = m; at 13 = m; huffs = 0");
            story.tell("law 6 1 = 0; moves; move 12 9 = UnsupportedOperation; why = c; law 6 0 = 1; side = 0");
        }
        story.until(5, "told 12 9 = 1");
        story.end("huffs = 0; at 12 = m; at 13 = m; seen = 1; isSound = true");
    }

    /** A game of 120 moves, taken back, and once more, and again with draws. */
    static void gamesOf120MovesFollowEachOther() {
        Story story = new Story("120 moves");
        story.tell("put 15 k; put 2 K").times(30, ROUND);
        story.tell("played = 120; calm = 120; seen = 31; play 0 = IllegalState; move 15 12 = IllegalState");
        story.times(120, "back").tell("back = NoSuchElement; calm = 0; seen = 1; law 9 99 = 0");
        story.times(24, ROUND).times(2, "play 0 = p").tell("play 0 = d; play 0 = IndexOutOfBounds; moves = 0");
        story.tell("calm = 99; state = d; why = NoSuchElement; move 5 2 = UnsupportedOperation; why = o");
        story.times(98, "back").tell("calm = 1; back = 0; law 9 0 = 99; law 10 5 = 0");
        story.times(4, ROUND).tell("state = d; seen = 5; back = 15; state = p; back = 14; back = 13; seen = 4");
        story.until(2, "back");
        story.end("played = 0; checksum");
    }

    /** Books and barred moves are filled, emptied and filled again. */
    static void booksAndBarredMovesFollowEachOther() {
        Story story = new Story("books");
        for (int round = 0; round < 5; round++) {
            story.tell("board 4 = 8; put 7 m; put 1 M; refuted = 0");
            for (int number = 1; number <= 20; number++) {
                story.tell("claim " + "wld".charAt((number + round) % 3) + " = " + number);
            }
            story.tell("claim w = IllegalState; claim x = IllegalArgument; refuted = 0; solve 2 = 740; refuted");
            for (int number = 1; number <= 10; number++) {
                story.tell("bar " + (round + 1) % 8 + " " + (number - 1) % 8 + (number > 8 ? " = UnsupportedOperation"
                    : " = " + number));
            }
            story.tell("bar 7 4; bar 7 5; bar 0 7 = IllegalState; bar 7 4 = UnsupportedOperation; draw 3 6; played");
            story.tell("board 5 = 12; bar 11 11 = IllegalState; refuted = 0; claim d = 1; fill 1 = 4; draw 12345 6");
            story.tell("played; value = IllegalState; back; claim l = 2; solve 1; refuted; lines 2; sources; checksum");
            for (int move = 0; move < 6; move++) {
                story.tell("back");
            }
            story.tell("side = 0; unbar = 10; draw 12345 6; checksum; isSound = true; unbar = 0; moves; told 0 3");
        }
        story.until(4, "why = NoSuchElement");
        story.end("unbar = 0; claim w; refuted; isSound = true");
    }

    /** Calls that are refused follow each other; nothing is another one for it at the end. */
    static void refusedCallsFollowEachOther() {
        Story story = new Story("refused calls");
        story.tell("board 4 = 8; law 6 0 = 1; put 7 m; put 4 M; put 1 k; solve 3 = 5500; claim w = 1; bar 7 5 = 1");
        story.tell("move 7 5 = p");
        while (story.calls() < Story.LAST - 60) {
            story.tell("board 3 = IllegalArgument; law 11 0 = IndexOutOfBounds; law 0 2 = IllegalArgument");
            story.tell("law 0 1 = UnsupportedOperation; put 8 m = IndexOutOfBounds; put 0 m = IllegalArgument");
            story.tell("put 0 k = UnsupportedOperation; fill 2 = IllegalArgument; fill 1 = UnsupportedOperation");
            story.tell("turn 2 = IllegalArgument; turn 0 = UnsupportedOperation; at 8 = IndexOutOfBounds");
            story.tell("pieces 2 true = IllegalArgument; beside 8 0 = IndexOutOfBounds; beside 0 4 = IllegalArgument");
            story.tell("from 9 = IndexOutOfBounds; to 9 = IndexOutOfBounds; captured 9 = IndexOutOfBounds");
            story.tell("captures 0 8 = IndexOutOfBounds; crowns 9 = IndexOutOfBounds; play 9 = IndexOutOfBounds");
            story.tell("told 8 0 = IndexOutOfBounds; move 0 8 = IndexOutOfBounds; move 0 7 = UnsupportedOperation");
            story.tell("huff 8 = IndexOutOfBounds; huff 4 = UnsupportedOperation; lines 5 = IllegalArgument");
            story.tell("solve 4 = IllegalArgument; count x 1 = IllegalArgument; count w 4 = IllegalArgument");
            story.tell("proves 7 = IllegalArgument; keys 0 = IllegalArgument; keyAt 7 0 = IllegalArgument");
            story.tell("keyAt 1 99 = NoSuchElement; duals 0 = IllegalArgument; bar 8 0 = IndexOutOfBounds");
            story.tell("bar 7 5 = UnsupportedOperation; draw 100000 1 = IllegalArgument; claim x = IllegalArgument");
        }
        story.until(21, "play -1 = IndexOutOfBounds");
        story.tell("side = 1; at 5 = m; at 4 = M; at 1 = k; played = 1; huffs = 1; why = n; value; refuted");
        story.tell("huff 5 = p; back = 0; at 7 = m; turn 0 = 0; value; count d 3; unbar = 1; claim l = 2; refuted");
        story.end("law 6 1 = 0; moves; isSound = true");
    }
}
