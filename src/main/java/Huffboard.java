import java.util.NoSuchElementException;

/** A hall of draughts by all laws. README.md tells how to use it. */
public final class Huffboard {
    private static final int NONE = -1;
    private static final int WAYS = 4;
    private static final int FEWEST_ROWS = 4;
    private static final int MOST_ROWS = 8;
    private static final int FIRST_ROWS = 6;
    private static final int MOST_FIELDS = 32;
    private static final int MOST_KEPT = 120;
    private static final int MOST_LINES = 4;
    private static final int MOST_PROVED = 6;
    private static final int MOST_DRAWN = 6;
    private static final int MOST_SEED = 99999;
    private static final int MOST_SOLVED = 3;
    private static final int MOST_SOLVED_FIELDS = 13;
    private static final int MOST_BARRED = 10;
    private static final int MOST_CLAIMS = 20;
    /** Far above what the lists of one search can hold together. */
    private static final int MOST_LISTED = 1 << 20;

    private static final int LAWS = 11;
    private static final int BACKWARDS = 0;
    private static final int FLYING = 1;
    private static final int CHOICE = 2;
    private static final int KINGS_FIRST = 3;
    private static final int AT_ONCE = 4;
    private static final int CROWNING = 5;
    private static final int MUST_CAPTURE = 6;
    private static final int STUCK_WINS = 7;
    private static final int KING_WINS = 8;
    private static final int CALM_DRAW = 9;
    private static final int REPEAT_DRAW = 10;
    private static final int[] HIGHEST = {1, 1, 2, 1, 1, 2, 1, 1, 1, 99, 5};

    private static final char NO_LETTER = 0;
    private static final long LOW_HALF = 0xFFFFFFFFL;

    private final Ground ground;
    private final Laws laws;
    private final Stand stand;
    private final Rules rules;
    private final Game game;
    private final Ending ending;
    private final Prover prover;
    private final Book book;
    private char refusal;

    public Huffboard() {
        ground = new Ground(FIRST_ROWS);
        laws = new Laws();
        stand = new Stand();
        rules = new Rules(ground, laws, stand);
        game = new Game(laws, stand, rules);
        ending = new Ending(ground, laws, stand, rules);
        prover = new Prover(laws, stand, rules);
        book = new Book();
        refusal = NO_LETTER;
    }

    public int board(int size) throws IllegalArgumentException {
        if (size < FEWEST_ROWS || size > MOST_ROWS) {
            throw new IllegalArgumentException("a board has 4 to 8 rows");
        }
        ground.lay(size);
        stand.set(0, 0, 0, 0);
        game.begin();
        ending.forget();
        book.dropClaims();
        return ground.fields;
    }

    public int law(int law, int value)
            throws IndexOutOfBoundsException, IllegalArgumentException, UnsupportedOperationException {
        if (law < 0 || law >= LAWS) {
            throw new IndexOutOfBoundsException("there is no such law");
        }
        if (value < 0 || value > read(HIGHEST, law)) {
            throw new IllegalArgumentException("the value is out of range");
        }
        if (game.played > 0) {
            throw new UnsupportedOperationException("a move is played");
        }
        int before = laws.get(law);
        if (law < CALM_DRAW && value != before) {
            ending.forget();
        }
        laws.set(law, value);
        return before;
    }

    public char put(int field, char piece)
            throws IndexOutOfBoundsException, IllegalArgumentException, UnsupportedOperationException {
        if (!isField(field)) {
            throw new IndexOutOfBoundsException("there is no such field");
        }
        if (!canStand(piece, field)) {
            throw new IllegalArgumentException("that piece cannot be put there");
        }
        if (game.played > 0) {
            throw new UnsupportedOperationException("a move is played");
        }
        char before = stand.letterAt(field);
        stand.putLetter(field, piece);
        game.begin();
        return before;
    }

    public int fill(int rows) throws IllegalArgumentException, UnsupportedOperationException {
        if (rows < 0 || rows > ground.size / 2 - 1) {
            throw new IllegalArgumentException("the number of rows is out of range");
        }
        if (game.played > 0) {
            throw new UnsupportedOperationException("a move is played");
        }
        stand.set(ground.lastRows(rows), ground.firstRows(rows), 0, stand.mover);
        game.begin();
        return Long.bitCount(stand.south | stand.north);
    }

    public int turn(int side) throws IllegalArgumentException, UnsupportedOperationException {
        if (!isSide(side)) {
            throw new IllegalArgumentException("there is no such side");
        }
        if (game.played > 0) {
            throw new UnsupportedOperationException("a move is played");
        }
        int before = stand.mover;
        stand.mover = side;
        game.begin();
        return before;
    }

    public int fields() {
        return ground.fields;
    }

    public char at(int field) throws IndexOutOfBoundsException {
        if (!isField(field)) {
            throw new IndexOutOfBoundsException("there is no such field");
        }
        return stand.letterAt(field);
    }

    public int pieces(int side, boolean areKings) throws IllegalArgumentException {
        if (!isSide(side)) {
            throw new IllegalArgumentException("there is no such side");
        }
        long asked = areKings ? stand.kings : ~stand.kings;
        return Long.bitCount(stand.of(side) & asked);
    }

    public int side() {
        return stand.mover;
    }

    public int beside(int field, int way) throws IndexOutOfBoundsException, IllegalArgumentException {
        if (!isField(field)) {
            throw new IndexOutOfBoundsException("there is no such field");
        }
        if (way < 0 || way >= WAYS) {
            throw new IllegalArgumentException("there is no such way");
        }
        return ground.next(field, way);
    }

    public int moves() {
        return game.listNow();
    }

    public int from(int move) throws IndexOutOfBoundsException {
        if (!isMove(move)) {
            throw new IndexOutOfBoundsException("there is no such move");
        }
        return fromOf(rules.listed(move));
    }

    public int to(int move) throws IndexOutOfBoundsException {
        if (!isMove(move)) {
            throw new IndexOutOfBoundsException("there is no such move");
        }
        return toOf(rules.listed(move));
    }

    public int captured(int move) throws IndexOutOfBoundsException {
        if (!isMove(move)) {
            throw new IndexOutOfBoundsException("there is no such move");
        }
        return Long.bitCount(takenOf(rules.listed(move)));
    }

    public boolean captures(int move, int field) throws IndexOutOfBoundsException {
        if (!isMove(move) || !isField(field)) {
            throw new IndexOutOfBoundsException("there is no such move or field");
        }
        return has(takenOf(rules.listed(move)), field);
    }

    public boolean crowns(int move) throws IndexOutOfBoundsException {
        if (!isMove(move)) {
            throw new IndexOutOfBoundsException("there is no such move");
        }
        return isCrowning(rules.listed(move));
    }

    public char play(int move) throws IndexOutOfBoundsException, IllegalStateException {
        if (!isMove(move)) {
            throw new IndexOutOfBoundsException("there is no such move");
        }
        if (game.played >= MOST_KEPT) {
            throw new IllegalStateException("120 moves are kept");
        }
        game.advance(rules.listed(move));
        return game.status();
    }

    public int told(int from, int to) throws IndexOutOfBoundsException {
        if (!isField(from) || !isField(to)) {
            throw new IndexOutOfBoundsException("there is no such field");
        }
        return rules.countTold(game.listNow(), from, to);
    }

    public char move(int from, int to)
            throws IndexOutOfBoundsException, UnsupportedOperationException, IllegalStateException {
        if (!isField(from) || !isField(to)) {
            throw new IndexOutOfBoundsException("there is no such field");
        }
        int end = game.listNow();
        int found = rules.countTold(end, from, to);
        if (found != 1) {
            refusal = found > 1 ? 'd' : whyNone(from, to);
            throw new UnsupportedOperationException("there is not just one such move");
        }
        if (game.played >= MOST_KEPT) {
            throw new IllegalStateException("120 moves are kept");
        }
        game.advance(rules.firstTold(end, from, to));
        return game.status();
    }

    public char why() throws NoSuchElementException {
        if (refusal == NO_LETTER) {
            throw new NoSuchElementException("no move by two fields was refused");
        }
        return refusal;
    }

    public char huff(int field) throws IndexOutOfBoundsException, UnsupportedOperationException {
        if (!isField(field)) {
            throw new IndexOutOfBoundsException("there is no such field");
        }
        if (!has(game.huffable(), field)) {
            throw new UnsupportedOperationException("it cannot be huffed");
        }
        game.takeOff(field);
        return game.status();
    }

    public int huffs() {
        return Long.bitCount(game.huffable());
    }

    public int back() throws NoSuchElementException {
        if (game.played <= 0) {
            throw new NoSuchElementException("there is no move to take back");
        }
        game.retreat();
        return game.played;
    }

    public int played() {
        return game.played;
    }

    public char state() {
        return game.status();
    }

    public int calm() {
        return game.calmNow();
    }

    public int seen() {
        return game.seenNow();
    }

    public int lines(int depth) throws IllegalArgumentException {
        if (depth < 0 || depth > MOST_LINES) {
            throw new IllegalArgumentException("the depth is out of range");
        }
        return prover.countLines(depth);
    }

    public int solve(int pieces) throws IllegalArgumentException, UnsupportedOperationException {
        if (pieces < 1 || pieces > MOST_SOLVED) {
            throw new IllegalArgumentException("the number of pieces is out of range");
        }
        if (ground.fields > MOST_SOLVED_FIELDS) {
            throw new UnsupportedOperationException("the board has more than 13 fields");
        }
        return ending.build(pieces);
    }

    public char value() throws IllegalStateException, NoSuchElementException {
        if (ending.pieces == 0) {
            throw new IllegalStateException("there is no table");
        }
        int result = ending.resultNow();
        if (result == Ending.ABSENT) {
            throw new NoSuchElementException("the position is not in the table");
        }
        return letterOf(result);
    }

    public int distance() throws IllegalStateException, NoSuchElementException {
        if (ending.pieces == 0) {
            throw new IllegalStateException("there is no table");
        }
        int result = ending.resultNow();
        if (result == Ending.ABSENT) {
            throw new NoSuchElementException("the position is not in the table");
        }
        return result == Ending.DRAWN ? NONE : result >> 1;
    }

    public int count(char value, int pieces) throws IllegalStateException, IllegalArgumentException {
        if (ending.pieces == 0) {
            throw new IllegalStateException("there is no table");
        }
        if (!isValue(value) || pieces < 1 || pieces > ending.pieces) {
            throw new IllegalArgumentException("there is no such value or number of pieces");
        }
        return ending.countOf(value, pieces);
    }

    public int longest() throws IllegalStateException {
        if (ending.pieces == 0) {
            throw new IllegalStateException("there is no table");
        }
        return ending.longestWin();
    }

    public int best() throws IllegalStateException, NoSuchElementException {
        if (ending.pieces == 0) {
            throw new IllegalStateException("there is no table");
        }
        int end = ending.resultNow() == Ending.ABSENT ? 0 : game.listNow();
        if (end == 0) {
            throw new NoSuchElementException("the position is not in the table or has no move");
        }
        return ending.bestOf(end);
    }

    public boolean proves(int moves) throws IllegalArgumentException {
        if (moves < 0 || moves > MOST_PROVED) {
            throw new IllegalArgumentException("the number of moves is out of range");
        }
        return prover.isWonIn(moves);
    }

    public int keys(int moves) throws IllegalArgumentException {
        if (!isKeyLength(moves)) {
            throw new IllegalArgumentException("the number of moves is out of range");
        }
        return prover.countKeys(moves);
    }

    public int keyAt(int moves, int index) throws IllegalArgumentException, NoSuchElementException {
        if (!isKeyLength(moves)) {
            throw new IllegalArgumentException("the number of moves is out of range");
        }
        int key = prover.keyNumber(moves, index);
        if (key == NONE) {
            throw new NoSuchElementException("there is no such key");
        }
        return key;
    }

    public int duals(int moves) throws IllegalArgumentException, NoSuchElementException {
        if (!isKeyLength(moves)) {
            throw new IllegalArgumentException("the number of moves is out of range");
        }
        if (prover.keyNumber(moves, 0) == NONE) {
            throw new NoSuchElementException("there is no key");
        }
        return prover.countDuals(moves);
    }

    public int bar(int from, int to)
            throws IndexOutOfBoundsException, UnsupportedOperationException, IllegalStateException {
        if (!isField(from) || !isField(to)) {
            throw new IndexOutOfBoundsException("there is no such field");
        }
        if (book.isBarred(from, to)) {
            throw new UnsupportedOperationException("the move is barred");
        }
        if (book.barred >= MOST_BARRED) {
            throw new IllegalStateException("10 moves are barred");
        }
        book.addBar(from, to);
        return book.barred;
    }

    public int unbar() {
        int before = book.barred;
        book.barred = 0;
        return before;
    }

    public int draw(int seed, int moves) throws IllegalArgumentException, IllegalStateException {
        if (seed < 0 || seed > MOST_SEED || moves < 0 || moves > MOST_DRAWN) {
            throw new IllegalArgumentException("a number is out of range");
        }
        if (game.played + moves > MOST_KEPT) {
            throw new IllegalStateException("more than 120 moves would be kept");
        }
        return playByLot(seed, moves);
    }

    public int claim(char value) throws IllegalArgumentException, IllegalStateException {
        if (!isValue(value)) {
            throw new IllegalArgumentException("there is no such value");
        }
        if (book.claims >= MOST_CLAIMS) {
            throw new IllegalStateException("there are 20 claims");
        }
        book.addClaim(stand, value);
        return book.claims;
    }

    public int refuted() {
        return ending.pieces == 0 ? 0 : countRefuted();
    }

    public int sources() {
        return rules.countSources();
    }

    public float crownShare() throws ArithmeticException {
        int all = Long.bitCount(stand.south | stand.north);
        if (all == 0) {
            throw new ArithmeticException("there are no pieces");
        }
        return (float) Long.bitCount(stand.kings) / (float) all;
    }

    public double meanMoves() throws ArithmeticException {
        int number = game.listNow();
        if (number == 0) {
            throw new ArithmeticException("there are no moves");
        }
        return (double) prover.countBehind(number) / (double) number;
    }

    public long checksum() {
        long sum = stand.mover;
        for (int field = 0; field < ground.fields; field++) {
            sum = 31 * sum + "-mkMK".indexOf(stand.letterAt(field));
        }
        return sum;
    }

    public boolean isSound() {
        return game.isReplayed() && ending.isRight() && prover.areKeysRight(ending);
    }

    // Tests of arguments

    private boolean isField(int field) {
        return field >= 0 && field < ground.fields;
    }

    private boolean isMove(int move) {
        return move >= 0 && move < game.listNow();
    }

    private static boolean isSide(int side) {
        return side == 0 || side == 1;
    }

    private static boolean isValue(char value) {
        return value == 'w' || value == 'l' || value == 'd';
    }

    private static boolean isKeyLength(int moves) {
        return moves >= 1 && moves <= MOST_PROVED;
    }

    private boolean canStand(char piece, int field) {
        if (piece == 'm') {
            return !has(ground.lastRowOf(0), field);
        }
        if (piece == 'M') {
            return !has(ground.lastRowOf(1), field);
        }
        return piece == 'k' || piece == 'K' || piece == '-';
    }

    // Work that needs several of the parts

    private char whyNone(int from, int to) {
        if (game.status() != 'p') {
            return 'o';
        }
        return rules.countTold(rules.list(0, true), from, to) > 0 ? 'c' : 'n';
    }

    private int playByLot(int seed, int moves) {
        long lot = seed;
        for (int done = 0; done < moves; done++) {
            int end = game.listNow();
            int open = 0;
            for (int i = 0; i < end; i++) {
                open += isOpen(i) ? 1 : 0;
            }
            if (open == 0) {
                return done;
            }
            lot = (lot * 1103515245L + 12345L) % 2147483648L;
            game.advance(rules.listed(openAt(end, (int) (lot / 65536L % open))));
        }
        return moves;
    }

    private boolean isOpen(int move) {
        long listed = rules.listed(move);
        return !book.isBarred(fromOf(listed), toOf(listed));
    }

    private int openAt(int end, int place) {
        int seen = 0;
        for (int i = 0; i < end; i++) {
            if (isOpen(i)) {
                if (seen == place) {
                    return i;
                }
                seen++;
            }
        }
        return 0;
    }

    private int countRefuted() {
        long sides = stand.sides();
        long rest = stand.rest();
        int sum = 0;
        for (int i = 0; i < book.claims; i++) {
            book.bring(i, stand);
            int result = ending.resultNow();
            sum += result != Ending.ABSENT && letterOf(result) != book.claimedAt(i) ? 1 : 0;
        }
        stand.bring(sides, rest);
        return sum;
    }

    // A move is one long: from, to, the fields of the captured pieces, and whether it crowns, in
    // that order from the top, so that moves stand in their due order when their numbers do.

    private static long packed(int from, int to, long taken, boolean crowns) {
        return (long) from << 38 | (long) to << 33 | taken << 1 | (crowns ? 1L : 0L);
    }

    private static int fromOf(long move) {
        return (int) (move >> 38) & 31;
    }

    private static int toOf(long move) {
        return (int) (move >> 33) & 31;
    }

    private static long takenOf(long move) {
        return move >> 1 & LOW_HALF;
    }

    private static boolean isCrowning(long move) {
        return (move & 1L) != 0;
    }

    // A set of fields is one long, too: the bit of each field in it

    private static long bit(int field) {
        return 1L << field;
    }

    private static boolean has(long fields, int field) {
        return (fields >> field & 1L) != 0;
    }

    private static char letterOf(int result) {
        if (result == Ending.DRAWN) {
            return 'd';
        }
        return (result & 1) == 1 ? 'w' : 'l';
    }

    // Rows are read and written here alone, so that no index is used untested

    private static int read(int[] row, int at) {
        return at >= 0 && at < row.length ? row[at] : 0;
    }

    private static void write(int[] row, int at, int value) {
        if (at >= 0 && at < row.length) {
            row[at] = value;
        }
    }

    private static long read(long[] row, int at) {
        return at >= 0 && at < row.length ? row[at] : 0L;
    }

    private static void write(long[] row, int at, long value) {
        if (at >= 0 && at < row.length) {
            row[at] = value;
        }
    }

    /** The fields of a board and how they lie. */
    private static final class Ground {
        private final int[] nexts = new int[WAYS * MOST_FIELDS];
        private int size;
        private int fields;
        private long all;
        private long topRow;
        private long bottomRow;

        Ground(int rows) {
            lay(rows);
        }

        void lay(int rows) {
            size = rows;
            fields = rows * rows / 2;
            all = bit(fields) - 1;
            topRow = firstRows(1);
            bottomRow = lastRows(1);
            for (int row = 0; row < rows; row++) {
                for (int column = (row + 1) % 2; column < rows; column += 2) {
                    for (int way = 0; way < WAYS; way++) {
                        int rowBeside = row + (way < 2 ? -1 : 1);
                        int columnBeside = column + (way % 2 == 0 ? -1 : 1);
                        write(nexts, way * MOST_FIELDS + fieldAt(row, column), fieldAt(rowBeside, columnBeside));
                    }
                }
            }
        }

        private int fieldAt(int row, int column) {
            boolean inside = row >= 0 && row < size && column >= 0 && column < size;
            return inside ? (row * size + column) / 2 : NONE;
        }

        /** The field beside one, NONE beyond the edge. */
        int next(int field, int way) {
            int at = way * MOST_FIELDS + field;
            return at >= 0 && at < nexts.length ? nexts[at] : NONE;
        }

        long firstRows(int rows) {
            return bit(rows * size / 2) - 1;
        }

        long lastRows(int rows) {
            return all & ~firstRows(size - rows);
        }

        long lastRowOf(int side) {
            return side == 0 ? topRow : bottomRow;
        }
    }

    private static final class Laws {
        private final int[] values = {0, 0, 0, 0, 0, 0, 1, 0, 0, 0, 0};

        int get(int law) {
            return law >= 0 && law < values.length ? values[law] : 0;
        }

        boolean holds(int law) {
            return law >= 0 && law < values.length && values[law] == 1;
        }

        void set(int law, int value) {
            write(values, law, value);
        }
    }

    /** A position: the fields of the side 0, which comes from the south, of the side 1, and of all kings. */
    private static final class Stand {
        private long south;
        private long north;
        private long kings;
        private int mover;

        void set(long newSouth, long newNorth, long newKings, int newMover) {
            south = newSouth;
            north = newNorth;
            kings = newKings;
            mover = newMover;
        }

        /** The first of the two longs that tell the position: who stands where. */
        long sides() {
            return south | north << 32;
        }

        /** The second one: the kings and who moves. */
        long rest() {
            return kings | (long) mover << 32;
        }

        void bring(long sides, long rest) {
            set(sides & LOW_HALF, sides >>> 32, rest & LOW_HALF, (int) (rest >>> 32) & 1);
        }

        boolean isAt(long sides, long rest) {
            return sides == sides() && rest == rest();
        }

        long of(int side) {
            return side == 0 ? south : north;
        }

        char letterAt(int field) {
            if (has(south, field)) {
                return has(kings, field) ? 'k' : 'm';
            }
            if (has(north, field)) {
                return has(kings, field) ? 'K' : 'M';
            }
            return '-';
        }

        void putLetter(int field, char piece) {
            remove(field);
            if (piece == 'm' || piece == 'k') {
                south |= bit(field);
            }
            if (piece == 'M' || piece == 'K') {
                north |= bit(field);
            }
            if (piece == 'k' || piece == 'K') {
                kings |= bit(field);
            }
        }

        void remove(int field) {
            long rest = ~bit(field);
            south &= rest;
            north &= rest;
            kings &= rest;
        }

        void carry(long move) {
            long from = bit(fromOf(move));
            long to = bit(toOf(move));
            long gone = takenOf(move) | from;
            boolean isKing = isCrowning(move) || (kings & from) != 0;
            south &= ~gone;
            north &= ~gone;
            kings &= ~gone;
            if (mover == 0) {
                south |= to;
            } else {
                north |= to;
            }
            if (isKing) {
                kings |= to;
            }
            mover = 1 - mover;
        }
    }

    /** Lists moves on one stack: a search lays the moves of each position upon those before it. */
    private static final class Rules {
        private final Ground ground;
        private final Laws laws;
        private final Stand stand;
        private long[] stack = new long[64];
        private int base;
        private int end;
        private int from;
        private long own;
        private long enemy;
        private long vacant;
        private long clear;
        private long lastRow;
        private boolean backwards;
        private boolean flying;
        private boolean atOnce;
        private int crowning;

        Rules(Ground theGround, Laws theLaws, Stand theStand) {
            ground = theGround;
            laws = theLaws;
            stand = theStand;
        }

        long listed(int at) {
            return read(stack, at);
        }

        /** Lists the moves that are allowed from the place start of the stack on, freely as if the laws
            2, 3 and 6 were not, so that one can tell what they forbid; returns where the list ends. */
        int list(int start, boolean freely) {
            prepare();
            base = start;
            end = start;
            for (int field = 0; field < ground.fields; field++) {
                if (has(own, field)) {
                    from = field;
                    clear = vacant | bit(field);
                    chain(field, 0L, has(stand.kings, field), 0);
                }
            }
            boolean captureAlone = end > base && !freely && laws.holds(MUST_CAPTURE);
            if (!freely) {
                keepMost();
                keepKings();
            }
            if (!captureAlone) {
                addSteps();
            }
            return end;
        }

        int countTold(int listEnd, int from, int to) {
            int sum = 0;
            for (int i = 0; i < listEnd; i++) {
                sum += fromOf(listed(i)) == from && toOf(listed(i)) == to ? 1 : 0;
            }
            return sum;
        }

        long firstTold(int listEnd, int from, int to) {
            for (int i = 0; i < listEnd; i++) {
                if (fromOf(listed(i)) == from && toOf(listed(i)) == to) {
                    return listed(i);
                }
            }
            return 0L;
        }

        /** Whether by law 8 the side that does not move has won, if it moved last. */
        boolean isCrownedBehind() {
            return laws.holds(KING_WINS) && (stand.of(1 - stand.mover) & stand.kings) != 0;
        }

        /** The side that has won, NONE if none has; draws aside. */
        int winner(boolean isMoved) {
            if (isMoved && isCrownedBehind()) {
                return 1 - stand.mover;
            }
            if (canMove()) {
                return NONE;
            }
            return laws.holds(STUCK_WINS) ? stand.mover : 1 - stand.mover;
        }

        boolean canMove() {
            prepare();
            for (int field = 0; field < ground.fields; field++) {
                boolean isKing = has(stand.kings, field);
                for (int way = 0; has(own, field) && way < WAYS; way++) {
                    int to = ground.next(field, way);
                    boolean canStep = to != NONE && has(vacant, to) && (isKing || isForward(way));
                    if (canStep || victim(field, way, 0L, isKing) != NONE) {
                        return true;
                    }
                }
            }
            return false;
        }

        private boolean canCapture() {
            prepare();
            for (int field = 0; field < ground.fields; field++) {
                for (int way = 0; has(own, field) && way < WAYS; way++) {
                    if (victim(field, way, 0L, has(stand.kings, field)) != NONE) {
                        return true;
                    }
                }
            }
            return false;
        }

        /** Takes from the position and the laws what each field asks for anew. */
        private void prepare() {
            own = stand.of(stand.mover);
            enemy = stand.of(1 - stand.mover);
            vacant = ground.all & ~(own | enemy);
            clear = vacant;
            lastRow = ground.lastRowOf(stand.mover);
            backwards = laws.holds(BACKWARDS);
            flying = laws.holds(FLYING);
            atOnce = laws.holds(AT_ONCE);
            crowning = laws.get(CROWNING);
        }

        private boolean isForward(int way) {
            return stand.mover == 0 ? way < 2 : way >= 2;
        }

        /** Goes on from a field to which a capture came, and adds the move if it ends there. */
        private void chain(int field, long taken, boolean isKing, int depth) {
            boolean arrives = taken != 0 && !isKing && has(lastRow, field);
            boolean asKing = isKing || arrives && crowning == 1;
            boolean goesOn = false;
            if (depth < MOST_FIELDS && !(arrives && crowning == 2)) {
                for (int way = 0; way < WAYS; way++) {
                    if (jump(field, way, taken, asKing, depth)) {
                        goesOn = true;
                    }
                }
            }
            if (taken != 0 && !goesOn) {
                boolean crowns = !has(stand.kings, from) && (asKing || arrives);
                insert(packed(from, field, taken, crowns));
            }
        }

        private boolean jump(int field, int way, long taken, boolean isKing, int depth) {
            int over = victim(field, way, taken, isKing);
            if (over == NONE) {
                return false;
            }
            long now = taken | bit(over);
            long free = atOnce ? clear | now : clear;
            int reach = isKing && flying ? MOST_ROWS : 1;
            int to = ground.next(over, way);
            for (int i = 0; i < reach && to != NONE && has(free, to); i++) {
                chain(to, now, isKing, depth + 1);
                to = ground.next(to, way);
            }
            return true;
        }

        /** The field of the piece that a capture that way goes over, NONE if there is no capture. */
        private int victim(int field, int way, long taken, boolean isKing) {
            if (!isKing && !backwards && !isForward(way)) {
                return NONE;
            }
            long free = atOnce ? clear | taken : clear;
            int ahead = isKing && flying ? MOST_ROWS : 0;
            int over = ground.next(field, way);
            for (int i = 0; i < ahead && over != NONE && has(free, over); i++) {
                over = ground.next(over, way);
            }
            if (over == NONE || !has(enemy & ~taken, over)) {
                return NONE;
            }
            int behind = ground.next(over, way);
            return behind != NONE && has(free, behind) ? over : NONE;
        }

        private void addSteps() {
            for (int field = 0; field < ground.fields; field++) {
                boolean isKing = has(stand.kings, field);
                int reach = isKing && flying ? MOST_ROWS : 1;
                for (int way = 0; has(own, field) && way < WAYS; way++) {
                    int to = isKing || isForward(way) ? ground.next(field, way) : NONE;
                    for (int i = 0; i < reach && to != NONE && has(vacant, to); i++) {
                        insert(packed(field, to, 0L, !isKing && has(lastRow, to)));
                        to = ground.next(to, way);
                    }
                }
            }
        }

        /** Puts a move where it is due; of moves alike there stays one, which crowns if one of them does. */
        private void insert(long move) {
            int at = end;
            for (int i = end; i > base && read(stack, i - 1) >> 1 > move >> 1; i--) {
                at = i - 1;
            }
            if (at > base && read(stack, at - 1) >> 1 == move >> 1) {
                write(stack, at - 1, read(stack, at - 1) | move);
                return;
            }
            if (end >= stack.length && !grow()) {
                return;
            }
            for (int i = end; i > at; i--) {
                write(stack, i, read(stack, i - 1));
            }
            write(stack, at, move);
            end++;
        }

        private boolean grow() {
            int length = stack.length * 2;
            if (length <= stack.length || length > MOST_LISTED) {
                return false;
            }
            long[] longer = new long[length];
            System.arraycopy(stack, 0, longer, 0, stack.length);
            stack = longer;
            return true;
        }

        /** Leaves, by law 2, the captures of the most pieces or of the greatest value. */
        private void keepMost() {
            if (laws.get(CHOICE) == 0) {
                return;
            }
            int most = 0;
            for (int i = base; i < end; i++) {
                most = Math.max(most, weight(listed(i)));
            }
            int kept = base;
            for (int i = base; i < end; i++) {
                if (weight(listed(i)) == most) {
                    write(stack, kept, listed(i));
                    kept++;
                }
            }
            end = kept;
        }

        private int weight(long move) {
            long taken = takenOf(move);
            int number = Long.bitCount(taken);
            return laws.get(CHOICE) == 1 ? number : 2 * number + Long.bitCount(taken & stand.kings);
        }

        /** Leaves, by law 3, the captures by kings if there are some. */
        private void keepKings() {
            if (!laws.holds(KINGS_FIRST)) {
                return;
            }
            int kept = base;
            for (int i = base; i < end; i++) {
                if (has(stand.kings, fromOf(listed(i)))) {
                    write(stack, kept, listed(i));
                    kept++;
                }
            }
            end = kept > base ? kept : end;
        }

        int countSources() {
            int sum = 0;
            int last = 1 - stand.mover;
            if (laws.holds(KING_WINS) && (stand.of(stand.mover) & stand.kings) != 0) {
                return 0;
            }
            for (int field = 0; field < ground.fields; field++) {
                for (int way = 0; has(stand.of(last), field) && way < WAYS; way++) {
                    sum += countSources(field, way);
                }
            }
            return sum;
        }

        /** Lets the piece on a field go back that way, and counts where it could have set out. */
        private int countSources(int field, int way) {
            int last = 1 - stand.mover;
            boolean isKing = has(stand.kings, field);
            boolean isBack = last == 0 ? way >= 2 : way < 2;
            boolean wasMan = isBack && (!isKing || has(ground.lastRowOf(last), field));
            int reach = isKing && laws.holds(FLYING) ? MOST_ROWS : 1;
            int origin = ground.next(field, way);
            int sum = 0;
            for (int i = 0; i < reach && origin != NONE && !has(stand.south | stand.north, origin); i++) {
                sum += isKing && canSetOut(field, origin, true) ? 1 : 0;
                sum += wasMan && i == 0 && canSetOut(field, origin, false) ? 1 : 0;
                origin = ground.next(origin, way);
            }
            return sum;
        }

        /** Whether a step to the field was allowed where its piece stood on the origin. */
        private boolean canSetOut(int field, int origin, boolean asKing) {
            if (!laws.holds(MUST_CAPTURE)) {
                return true;
            }
            long sides = stand.sides();
            long rest = stand.rest();
            stand.mover = 1 - stand.mover;
            stand.remove(field);
            if (stand.mover == 0) {
                stand.putLetter(origin, asKing ? 'k' : 'm');
            } else {
                stand.putLetter(origin, asKing ? 'K' : 'M');
            }
            boolean allowed = !canCapture();
            stand.bring(sides, rest);
            return allowed;
        }
    }

    /** The moves played, each with the position behind it; place 0 holds the position that was set. */
    private static final class Game {
        private final Laws laws;
        private final Stand stand;
        private final Rules rules;
        private final long[] sides = new long[MOST_KEPT + 1];
        private final long[] rests = new long[MOST_KEPT + 1];
        private final long[] moved = new long[MOST_KEPT + 1];
        private final int[] calms = new int[MOST_KEPT + 1];
        private final int[] huffed = new int[MOST_KEPT + 1];
        private int played;

        Game(Laws theLaws, Stand theStand, Rules theRules) {
            laws = theLaws;
            stand = theStand;
            rules = theRules;
        }

        /** Takes the position as it is for the one that was set. */
        void begin() {
            played = 0;
            keep();
        }

        private void keep() {
            write(sides, played, stand.sides());
            write(rests, played, stand.rest());
        }

        private void bring(int at) {
            stand.bring(read(sides, at), read(rests, at));
        }

        private boolean isKeptAt(int at) {
            return stand.isAt(read(sides, at), read(rests, at));
        }

        void advance(long move) {
            if (played >= MOST_KEPT) {
                return;
            }
            boolean isCalm = takenOf(move) == 0 && has(stand.kings, fromOf(move));
            int calm = isCalm ? calmNow() + 1 : 0;
            stand.carry(move);
            played++;
            keep();
            write(moved, played, move);
            write(calms, played, calm);
            write(huffed, played, NONE);
        }

        void retreat() {
            if (played > 0) {
                played--;
                bring(played);
            }
        }

        int calmNow() {
            return played == 0 ? 0 : read(calms, played);
        }

        int seenNow() {
            int sum = 0;
            for (int i = 0; i <= played; i++) {
                sum += isKeptAt(i) ? 1 : 0;
            }
            return sum;
        }

        char status() {
            int winner = rules.winner(played > 0);
            if (winner != NONE) {
                return winner == 0 ? '0' : '1';
            }
            boolean isCalmDraw = laws.get(CALM_DRAW) > 0 && calmNow() >= laws.get(CALM_DRAW);
            boolean isRepeatDraw = laws.get(REPEAT_DRAW) > 0 && seenNow() >= laws.get(REPEAT_DRAW);
            return isCalmDraw || isRepeatDraw ? 'd' : 'p';
        }

        /** Lists the moves of the game at the bottom of the stack; returns how many there are. */
        int listNow() {
            return status() == 'p' ? rules.list(0, false) : 0;
        }

        /** The fields of the pieces that can be huffed now. */
        long huffable() {
            boolean isOpen = !laws.holds(MUST_CAPTURE) && played > 0 && read(huffed, played) == NONE;
            long move = read(moved, played);
            if (!isOpen || takenOf(move) != 0 || status() != 'p') {
                return 0L;
            }
            bring(played - 1);
            int end = rules.list(0, false);
            bring(played);
            long fields = 0L;
            for (int i = 0; i < end; i++) {
                long other = rules.listed(i);
                if (takenOf(other) != 0) {
                    fields |= bit(fromOf(other) == fromOf(move) ? toOf(move) : fromOf(other));
                }
            }
            return fields;
        }

        void takeOff(int field) {
            stand.remove(field);
            write(huffed, played, field);
            keep();
        }

        /** Whether the moves kept, played from the position that was set, give all positions kept. */
        boolean isReplayed() {
            bring(0);
            boolean same = true;
            for (int i = 1; i <= played; i++) {
                stand.carry(read(moved, i));
                if (read(huffed, i) != NONE) {
                    stand.remove(read(huffed, i));
                }
                same = same && isKeptAt(i);
            }
            bring(played);
            return same;
        }
    }

    /** Counts lines and proves wins by going on, the draws by the laws 9 and 10 aside. */
    private static final class Prover {
        private final Laws laws;
        private final Stand stand;
        private final Rules rules;

        Prover(Laws theLaws, Stand theStand, Rules theRules) {
            laws = theLaws;
            stand = theStand;
            rules = theRules;
        }

        int countLines(int depth) {
            return countLines(depth, 0);
        }

        private int countLines(int depth, int base) {
            if (depth <= 0 || depth > MOST_LINES) {
                return 1;
            }
            if (rules.isCrownedBehind()) {
                return 0;
            }
            int end = rules.list(base, false);
            if (depth == 1) {
                return end - base;
            }
            long sides = stand.sides();
            long rest = stand.rest();
            int sum = 0;
            for (int i = base; i < end; i++) {
                stand.carry(rules.listed(i));
                sum += countLines(depth - 1, end);
                stand.bring(sides, rest);
            }
            return sum;
        }

        /** The moves behind each of the moves listed at the bottom of the stack, all together. */
        int countBehind(int end) {
            long sides = stand.sides();
            long rest = stand.rest();
            int sum = 0;
            for (int i = 0; i < end; i++) {
                stand.carry(rules.listed(i));
                sum += rules.isCrownedBehind() ? 0 : rules.list(end, false) - end;
                stand.bring(sides, rest);
            }
            return sum;
        }

        boolean isWonIn(int moves) {
            return wins(moves, 0);
        }

        /** Lists the moves at the bottom of the stack, also of a game that is drawn. */
        int listAside() {
            return rules.isCrownedBehind() ? 0 : rules.list(0, false);
        }

        int countKeys(int moves) {
            int end = listAside();
            int sum = 0;
            for (int i = 0; i < end; i++) {
                sum += isKey(rules.listed(i), moves, end) ? 1 : 0;
            }
            return sum;
        }

        int keyNumber(int moves, int index) {
            int end = listAside();
            int sum = 0;
            for (int i = 0; i < end; i++) {
                if (isKey(rules.listed(i), moves, end)) {
                    if (sum == index) {
                        return i;
                    }
                    sum++;
                }
            }
            return NONE;
        }

        /** Whether behind the move the other side loses in the rest of so many moves. */
        private boolean isKey(long move, int moves, int base) {
            long sides = stand.sides();
            long rest = stand.rest();
            stand.carry(move);
            boolean isLost = loses(moves - 1, base);
            stand.bring(sides, rest);
            return isLost;
        }

        /** Whether the keys are those moves behind which the table has the other side lost. */
        boolean areKeysRight(Ending ending) {
            if (ending.resultNow() == Ending.ABSENT) {
                return true;
            }
            for (int moves = 1; moves <= MOST_PROVED; moves++) {
                int end = listAside();
                for (int i = 0; i < end; i++) {
                    if (isKey(rules.listed(i), moves, end) != ending.isLostIn(rules.listed(i), moves - 1)) {
                        return false;
                    }
                }
            }
            return true;
        }

        int countDuals(int moves) {
            long sides = stand.sides();
            long rest = stand.rest();
            int sum = 0;
            for (int left = moves; left > 0; left -= 2) {
                int key = keyNumber(left, 0);
                if (key == NONE) {
                    break;
                }
                sum += keyNumber(left, 1) != NONE ? 1 : 0;
                listAside();
                stand.carry(rules.listed(key));
                int answers = listAside();
                if (answers == 0) {
                    break;
                }
                stand.carry(rules.listed(slowest(answers, left - 2)));
            }
            stand.bring(sides, rest);
            return sum;
        }

        /** The first of the answers at the bottom of the stack by which the win takes longest. */
        private int slowest(int answers, int limit) {
            long sides = stand.sides();
            long rest = stand.rest();
            int found = 0;
            int most = NONE;
            for (int i = 0; i < answers; i++) {
                stand.carry(rules.listed(i));
                int length = 0;
                for (int moves = 0; moves < limit && !wins(moves, answers); moves++) {
                    length = moves + 1;
                }
                stand.bring(sides, rest);
                if (length > most) {
                    most = length;
                    found = i;
                }
            }
            return found;
        }

        private boolean wins(int left, int base) {
            if (left < 0 || left > MOST_PROVED || rules.isCrownedBehind()) {
                return false;
            }
            int limit = shortened(left, laws.holds(STUCK_WINS) ? 0 : 1);
            if (limit <= 0) {
                return laws.holds(STUCK_WINS) && !rules.canMove();
            }
            int end = rules.list(base, false);
            if (end == base) {
                return laws.holds(STUCK_WINS);
            }
            for (int i = base; i < end; i++) {
                if (isKey(rules.listed(i), limit, end)) {
                    return true;
                }
            }
            return false;
        }

        private boolean loses(int left, int base) {
            if (left < 0 || left > MOST_PROVED) {
                return false;
            }
            if (rules.isCrownedBehind()) {
                return true;
            }
            int limit = shortened(left, laws.holds(STUCK_WINS) ? 1 : 0);
            if (limit <= 0) {
                return !laws.holds(STUCK_WINS) && !rules.canMove();
            }
            int end = rules.list(base, false);
            if (end == base) {
                return !laws.holds(STUCK_WINS);
            }
            long sides = stand.sides();
            long rest = stand.rest();
            boolean isHeld = true;
            for (int i = base; i < end && isHeld; i++) {
                stand.carry(rules.listed(i));
                isHeld = wins(limit - 1, end);
                stand.bring(sides, rest);
            }
            return isHeld;
        }

        /** One move less where the last one could decide nothing: unless both the laws 7 and 8
            hold, games end always with the side to move winning, or always with it losing. */
        private int shortened(int left, int parity) {
            boolean isMixed = laws.holds(STUCK_WINS) && laws.holds(KING_WINS);
            return isMixed || left % 2 == parity ? left : left - 1;
        }
    }

    /** The table. A position with the side 1 to move is looked up turned round, with the sides
        exchanged: it is the same ending, so that half of the positions are enough. */
    private static final class Ending {
        private static final int DRAWN = -1;
        private static final int ABSENT = -2;
        /** What the places of a table have of ways on the average: less than 2.95, as counted over
            all laws, boards and numbers of pieces. */
        private static final int WAYS_A_PLACE = 3;

        private final Ground ground;
        private final Laws laws;
        private final Stand stand;
        private final Rules rules;
        /** DRAWN, ABSENT, or twice the distance, plus 1 if it is won. */
        private int[] results = new int[0];
        private int[] waiting = new int[0];
        private int[] queue = new int[0];
        /** For each position the last way into it; a way tells the position before and the way ahead of it. */
        private int[] heads = new int[0];
        private int[] origins = new int[0];
        private int[] links = new int[0];
        private int queued;
        private int ways;
        private int pieces;

        Ending(Ground theGround, Laws theLaws, Stand theStand, Rules theRules) {
            ground = theGround;
            laws = theLaws;
            stand = theStand;
            rules = theRules;
        }

        void forget() {
            pieces = 0;
        }

        /** Solves all positions; returns how many there are. */
        int build(int most) {
            long sides = stand.sides();
            long rest = stand.rest();
            int slots = slotsBelow(most + 1);
            reserve(slots);
            pieces = most;
            queued = 0;
            ways = 0;
            int number = 0;
            for (int slot = 0; slot < slots; slot++) {
                write(results, slot, ABSENT);
                write(heads, slot, NONE);
            }
            for (int slot = 0; slot < slots; slot++) {
                if (place(slot)) {
                    number++;
                    open(slot);
                }
            }
            solveBackwards();
            stand.bring(sides, rest);
            return 2 * number;
        }

        private void reserve(int slots) {
            if (slots > results.length) {
                results = new int[slots];
                waiting = new int[slots];
                queue = new int[slots];
                heads = new int[slots];
                origins = new int[slots * WAYS_A_PLACE];
                links = new int[slots * WAYS_A_PLACE];
            }
        }

        /** Enters a position with all its moves; it counts as drawn until it is solved. */
        private void open(int slot) {
            write(results, slot, DRAWN);
            int end = rules.isCrownedBehind() ? 0 : rules.list(0, false);
            write(waiting, slot, end);
            if (end == 0) {
                settle(slot, over());
            }
            long sides = stand.sides();
            long rest = stand.rest();
            for (int i = 0; i < end; i++) {
                stand.carry(rules.listed(i));
                addWay(slot, slotNow());
                stand.bring(sides, rest);
            }
        }

        /** The result of a game that is over. */
        private int over() {
            return laws.holds(STUCK_WINS) && !rules.isCrownedBehind() ? 1 : 0;
        }

        private void addWay(int origin, int slot) {
            write(origins, ways, origin);
            write(links, ways, read(heads, slot));
            write(heads, slot, ways);
            ways++;
        }

        private void settle(int slot, int result) {
            write(results, slot, result);
            write(queue, queued, slot);
            queued++;
        }

        /** Goes from solved positions to those before them; as the nearer ones come ahead, the
            first lost one behind a position is the nearest, and the last won one the farthest. */
        private void solveBackwards() {
            for (int i = 0; i < queued && i < queue.length; i++) {
                int slot = read(queue, i);
                int result = read(results, slot);
                int farther = 2 * (result >> 1) + 2;
                int way = read(heads, slot);
                for (int k = 0; k < ways && way != NONE; k++) {
                    int origin = read(origins, way);
                    if (read(results, origin) == DRAWN) {
                        int rest = read(waiting, origin) - 1;
                        write(waiting, origin, rest);
                        if ((result & 1) == 0) {
                            settle(origin, farther + 1);
                        } else if (rest == 0) {
                            settle(origin, farther);
                        }
                    }
                    way = read(links, way);
                }
            }
        }

        int resultNow() {
            int slot = slotNow();
            return slot == NONE ? ABSENT : read(results, slot);
        }

        /** The place of the position in the table, NONE if it has none. */
        private int slotNow() {
            long all = stand.south | stand.north;
            int number = Long.bitCount(all);
            if (number < 1 || number > pieces) {
                return NONE;
            }
            int rank = 0;
            int kinds = 0;
            int nth = 0;
            for (int i = 0; i < ground.fields; i++) {
                int field = stand.mover == 0 ? i : ground.fields - 1 - i;
                if (has(all, field)) {
                    nth++;
                    rank += choose(i, nth);
                    int kind = (has(stand.of(stand.mover), field) ? 0 : 2) + (has(stand.kings, field) ? 1 : 0);
                    kinds = kinds * 4 + kind;
                }
            }
            return slotsBelow(number) + (rank << 2 * number) + kinds;
        }

        /** Lays the position of a place, the side 0 moving; returns whether men stand on no last row. */
        private boolean place(int slot) {
            int number = 1;
            for (int i = 2; i <= pieces && slot >= slotsBelow(i); i++) {
                number = i;
            }
            int rest = slot - slotsBelow(number);
            int kinds = rest;
            int rank = rest >> 2 * number;
            stand.set(0, 0, 0, 0);
            for (int nth = number; nth >= 1; nth--) {
                int field = nth - 1;
                for (int i = nth; i < ground.fields && choose(i, nth) <= rank; i++) {
                    field = i;
                }
                rank -= choose(field, nth);
                stand.putLetter(field, letterOfKind(kinds & 3));
                kinds >>= 2;
            }
            return (stand.south & ~stand.kings & ground.lastRowOf(0)) == 0
                && (stand.north & ~stand.kings & ground.lastRowOf(1)) == 0;
        }

        /** The piece of a kind, the side that moves being the side 0. */
        private static char letterOfKind(int kind) {
            if (kind < 2) {
                return kind == 0 ? 'm' : 'k';
            }
            return kind == 2 ? 'M' : 'K';
        }

        /** How many places there are for positions with fewer pieces. */
        private int slotsBelow(int number) {
            int sum = 0;
            for (int i = 1; i < number; i++) {
                sum += choose(ground.fields, i) << 2 * i;
            }
            return sum;
        }

        private static int choose(int all, int number) {
            if (number == 1) {
                return all;
            }
            return number == 2 ? all * (all - 1) / 2 : all * (all - 1) * (all - 2) / 6;
        }

        int countOf(char value, int number) {
            int sum = 0;
            int end = slotsBelow(number + 1);
            for (int slot = slotsBelow(number); slot < end; slot++) {
                int result = read(results, slot);
                sum += result != ABSENT && letterOf(result) == value ? 2 : 0;
            }
            return sum;
        }

        int longestWin() {
            int most = NONE;
            int slots = slotsBelow(pieces + 1);
            for (int slot = 0; slot < slots; slot++) {
                int result = read(results, slot);
                if (result >= 0 && (result & 1) == 1) {
                    most = Math.max(most, result >> 1);
                }
            }
            return most;
        }

        /** The result behind a move. */
        private int resultBehind(long move) {
            long sides = stand.sides();
            long rest = stand.rest();
            stand.carry(move);
            int slot = slotNow();
            stand.bring(sides, rest);
            return slot == NONE ? ABSENT : read(results, slot);
        }

        boolean isLostIn(long move, int limit) {
            int result = resultBehind(move);
            return result >= 0 && (result & 1) == 0 && result >> 1 <= limit;
        }

        /** The first best one of the moves at the bottom of the stack. */
        int bestOf(int end) {
            int found = 0;
            int least = worthFor(resultBehind(rules.listed(0)));
            for (int i = 1; i < end; i++) {
                int worth = worthFor(resultBehind(rules.listed(i)));
                if (worth < least) {
                    least = worth;
                    found = i;
                }
            }
            return found;
        }

        /** A number that is the less the better it is to move to a position with that result. */
        private static int worthFor(int result) {
            if (result == DRAWN) {
                return MOST_LISTED;
            }
            return (result & 1) == 0 ? result : 2 * MOST_LISTED - result;
        }

        /** Whether each entry of the table is what its moves tell. */
        boolean isRight() {
            long sides = stand.sides();
            long rest = stand.rest();
            boolean right = true;
            int slots = pieces == 0 ? 0 : slotsBelow(pieces + 1);
            for (int slot = 0; slot < slots && right; slot++) {
                int due = place(slot) ? resultByMoves() : ABSENT;
                right = read(results, slot) == due;
            }
            stand.bring(sides, rest);
            return right;
        }

        private int resultByMoves() {
            int end = rules.isCrownedBehind() ? 0 : rules.list(0, false);
            if (end == 0) {
                return over();
            }
            int behind = resultBehind(rules.listed(bestOf(end)));
            if (behind == DRAWN) {
                return DRAWN;
            }
            return 2 * (behind >> 1) + 2 + (1 - (behind & 1));
        }
    }

    /** The barred moves and the claims. */
    private static final class Book {
        private final int[] bars = new int[MOST_BARRED];
        private final long[] sides = new long[MOST_CLAIMS];
        private final long[] rests = new long[MOST_CLAIMS];
        private final int[] values = new int[MOST_CLAIMS];
        private int barred;
        private int claims;

        boolean isBarred(int from, int to) {
            for (int i = 0; i < barred; i++) {
                if (read(bars, i) == from * MOST_FIELDS + to) {
                    return true;
                }
            }
            return false;
        }

        void addBar(int from, int to) {
            write(bars, barred, from * MOST_FIELDS + to);
            barred++;
        }

        void dropClaims() {
            claims = 0;
        }

        void addClaim(Stand stand, char value) {
            write(sides, claims, stand.sides());
            write(rests, claims, stand.rest());
            write(values, claims, value);
            claims++;
        }

        /** Lays the position of a claim. */
        void bring(int claim, Stand stand) {
            stand.bring(read(sides, claim), read(rests, claim));
        }

        char claimedAt(int claim) {
            return (char) read(values, claim);
        }
    }
}
