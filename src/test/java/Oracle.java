import java.util.ArrayList;
import java.util.Arrays;
import java.util.HashMap;
import java.util.List;
import java.util.Map;
import java.util.NoSuchElementException;
import java.util.TreeMap;
import java.util.TreeSet;

/**
 * The document once more, told as plainly as can be, slow and without any thrift: boards are rows of
 * letters, tables are maps. OracleTest holds the class against it.
 */
public final class Oracle {
    private static final String PIECES = "-mkMK";

    /** A position and how it came to be. */
    private static final class Place {
        char[] on;
        int mover;
        int calm;
        Move by;
        boolean huffed;

        Place(char[] on, int mover) {
            this.on = on.clone();
            this.mover = mover;
        }

        String key() {
            return mover + new String(on);
        }
    }

    private static final class Move implements Comparable<Move> {
        int from;
        int to;
        TreeSet<Integer> over = new TreeSet<>();
        boolean crowns;
        boolean byKing;

        long sum() {
            long sum = 0;
            for (int field : over) {
                sum += 1L << field;
            }
            return sum;
        }

        @Override
        public int compareTo(Move other) {
            if (from != other.from) {
                return Integer.compare(from, other.from);
            }
            return to != other.to ? Integer.compare(to, other.to) : Long.compare(sum(), other.sum());
        }
    }

    private int size = 6;
    private int[] rows;
    private int[] columns;
    private final int[] law = {0, 0, 0, 0, 0, 0, 1, 0, 0, 0, 0};
    private List<Place> line = new ArrayList<>();
    private Map<String, Integer> table;
    private int tablePieces;
    private char refusal = 0;
    private final List<int[]> barred = new ArrayList<>();
    private final List<String> claims = new ArrayList<>();

    public Oracle() {
        lay(6);
    }

    private void lay(int rowsOfBoard) {
        size = rowsOfBoard;
        List<int[]> places = new ArrayList<>();
        for (int row = 0; row < size; row++) {
            for (int column = 0; column < size; column++) {
                if ((row + column) % 2 == 1) {
                    places.add(new int[] {row, column});
                }
            }
        }
        rows = new int[places.size()];
        columns = new int[places.size()];
        for (int i = 0; i < rows.length; i++) {
            rows[i] = places.get(i)[0];
            columns[i] = places.get(i)[1];
        }
        char[] empty = new char[rows.length];
        Arrays.fill(empty, '-');
        line = new ArrayList<>();
        line.add(new Place(empty, 0));
        table = null;
        claims.clear();
    }

    private Place now() {
        return line.get(line.size() - 1);
    }

    private int at(int row, int column) {
        for (int i = 0; i < rows.length; i++) {
            if (rows[i] == row && columns[i] == column) {
                return i;
            }
        }
        return -1;
    }

    private int step(int field, int way) {
        return at(rows[field] + (way < 2 ? -1 : 1), columns[field] + (way % 2 == 0 ? -1 : 1));
    }

    private boolean isLastRow(int field, int side) {
        return rows[field] == (side == 0 ? 0 : size - 1);
    }

    private static boolean isOf(char piece, int side) {
        return side == 0 ? piece == 'm' || piece == 'k' : piece == 'M' || piece == 'K';
    }

    private static boolean isKing(char piece) {
        return piece == 'k' || piece == 'K';
    }

    private static boolean ahead(int side, int way) {
        return side == 0 ? way == 0 || way == 1 : way == 2 || way == 3;
    }

    private void needField(int field) {
        if (field < 0 || field >= rows.length) {
            throw new IndexOutOfBoundsException();
        }
    }

    private void needSide(int side) {
        if (side < 0 || side > 1) {
            throw new IllegalArgumentException();
        }
    }

    private void needRange(int value, int least, int most) {
        if (value < least || value > most) {
            throw new IllegalArgumentException();
        }
    }

    private void needStart() {
        if (line.size() > 1) {
            throw new UnsupportedOperationException();
        }
    }

    // Moves

    private List<Move> captures(Place p) {
        TreeMap<Move, Move> found = new TreeMap<>();
        for (int field = 0; field < rows.length; field++) {
            if (isOf(p.on[field], p.mover)) {
                char[] lifted = p.on.clone();
                lifted[field] = '-';
                go(found, lifted, p.mover, field, field, isKing(p.on[field]), isKing(p.on[field]), new TreeSet<>());
            }
        }
        return new ArrayList<>(found.values());
    }

    private void go(Map<Move, Move> found, char[] on, int side, int from, int here, boolean wasKing,
            boolean kingNow, TreeSet<Integer> over) {
        boolean king = kingNow;
        boolean ends = false;
        if (!over.isEmpty() && !king && isLastRow(here, side)) {
            if (law[5] == 1) {
                king = true;
            }
            ends = law[5] == 2;
        }
        boolean any = false;
        for (int way = 0; way < 4 && !ends; way++) {
            if (!king && law[0] == 0 && !ahead(side, way)) {
                continue;
            }
            int victim = step(here, way);
            while (king && law[1] == 1 && victim >= 0 && on[victim] == '-') {
                victim = step(victim, way);
            }
            if (victim < 0 || !isOf(on[victim], 1 - side)) {
                continue;
            }
            List<Integer> landings = new ArrayList<>();
            int behind = step(victim, way);
            while (behind >= 0 && on[behind] == '-' && (landings.isEmpty() || king && law[1] == 1)) {
                landings.add(behind);
                behind = step(behind, way);
            }
            for (int landing : landings) {
                any = true;
                char[] next = on.clone();
                next[victim] = law[4] == 1 ? '-' : 'x';
                TreeSet<Integer> more = new TreeSet<>(over);
                more.add(victim);
                go(found, next, side, from, landing, wasKing, king, more);
            }
        }
        if (!any && !over.isEmpty()) {
            Move move = new Move();
            move.from = from;
            move.to = here;
            move.over = over;
            move.byKing = wasKing;
            move.crowns = !wasKing && (king || isLastRow(here, side));
            Move alike = found.get(move);
            if (alike == null) {
                found.put(move, move);
            } else {
                alike.crowns |= move.crowns;
            }
        }
    }

    private List<Move> steps(Place p) {
        List<Move> found = new ArrayList<>();
        for (int field = 0; field < rows.length; field++) {
            if (!isOf(p.on[field], p.mover)) {
                continue;
            }
            boolean king = isKing(p.on[field]);
            for (int way = 0; way < 4; way++) {
                if (!king && !ahead(p.mover, way)) {
                    continue;
                }
                int to = step(field, way);
                while (to >= 0 && p.on[to] == '-') {
                    Move move = new Move();
                    move.from = field;
                    move.to = to;
                    move.byKing = king;
                    move.crowns = !king && isLastRow(to, p.mover);
                    found.add(move);
                    if (!king || law[1] == 0) {
                        break;
                    }
                    to = step(to, way);
                }
            }
        }
        return found;
    }

    private int worth(Place p, Move move) {
        int sum = 0;
        for (int field : move.over) {
            sum += law[2] == 1 ? 1 : isKing(p.on[field]) ? 3 : 2;
        }
        return sum;
    }

    private List<Move> allowedCaptures(Place p) {
        List<Move> all = captures(p);
        if (law[2] != 0) {
            int most = 0;
            for (Move move : all) {
                most = Math.max(most, worth(p, move));
            }
            List<Move> left = new ArrayList<>();
            for (Move move : all) {
                if (worth(p, move) == most) {
                    left.add(move);
                }
            }
            all = left;
        }
        if (law[3] == 1) {
            List<Move> left = new ArrayList<>();
            for (Move move : all) {
                if (move.byKing) {
                    left.add(move);
                }
            }
            all = left.isEmpty() ? all : left;
        }
        return all;
    }

    /** The moves, whatever the state of the game. */
    private List<Move> allowed(Place p) {
        List<Move> all = allowedCaptures(p);
        if (all.isEmpty() || law[6] == 0) {
            all.addAll(steps(p));
        }
        all.sort(null);
        return all;
    }

    private Place behind(Place p, Move move) {
        Place next = new Place(p.on, 1 - p.mover);
        char piece = p.on[move.from];
        next.on[move.from] = '-';
        for (int field : move.over) {
            next.on[field] = '-';
        }
        boolean king = isKing(piece) || move.crowns;
        next.on[move.to] = p.mover == 0 ? king ? 'k' : 'm' : king ? 'K' : 'M';
        next.calm = isKing(piece) && move.over.isEmpty() ? p.calm + 1 : 0;
        next.by = move;
        return next;
    }

    private static boolean hasKing(Place p, int side) {
        for (char piece : p.on) {
            if (isOf(piece, side) && isKing(piece)) {
                return true;
            }
        }
        return false;
    }

    /** Who has won, draws aside: 0, 1 or -1 for none. */
    private int winner(Place p, boolean moved) {
        if (moved && law[8] == 1 && hasKing(p, 1 - p.mover)) {
            return 1 - p.mover;
        }
        if (allowed(p).isEmpty()) {
            return law[7] == 1 ? p.mover : 1 - p.mover;
        }
        return -1;
    }

    private List<Move> goingOn(Place p) {
        return winner(p, true) >= 0 ? new ArrayList<>() : allowed(p);
    }

    private List<Move> nowAllowed() {
        return state() == 'p' ? allowed(now()) : new ArrayList<>();
    }

    // The face

    public int board(int rowsOfBoard) {
        needRange(rowsOfBoard, 4, 8);
        lay(rowsOfBoard);
        return rows.length;
    }

    public int law(int number, int value) {
        if (number < 0 || number > 10) {
            throw new IndexOutOfBoundsException();
        }
        needRange(value, 0, number == 2 || number == 5 ? 2 : number == 9 ? 99 : number == 10 ? 5 : 1);
        needStart();
        int before = law[number];
        law[number] = value;
        if (before != value && number <= 8) {
            table = null;
        }
        return before;
    }

    public char put(int field, char piece) {
        needField(field);
        boolean onLast = piece == 'm' && isLastRow(field, 0) || piece == 'M' && isLastRow(field, 1);
        if (PIECES.indexOf(piece) < 0 || onLast) {
            throw new IllegalArgumentException();
        }
        needStart();
        char before = now().on[field];
        now().on[field] = piece;
        return before;
    }

    public int fill(int many) {
        needRange(many, 0, size / 2 - 1);
        needStart();
        int sum = 0;
        for (int i = 0; i < rows.length; i++) {
            now().on[i] = rows[i] < many ? 'M' : rows[i] >= size - many ? 'm' : '-';
            sum += now().on[i] == '-' ? 0 : 1;
        }
        return sum;
    }

    public int turn(int side) {
        needSide(side);
        needStart();
        int before = now().mover;
        now().mover = side;
        return before;
    }

    public int fields() {
        return rows.length;
    }

    public char at(int field) {
        needField(field);
        return now().on[field];
    }

    public int pieces(int side, boolean areKings) {
        needSide(side);
        int sum = 0;
        for (char piece : now().on) {
            sum += isOf(piece, side) && isKing(piece) == areKings ? 1 : 0;
        }
        return sum;
    }

    public int side() {
        return now().mover;
    }

    public int beside(int field, int way) {
        needField(field);
        needRange(way, 0, 3);
        return step(field, way);
    }

    public int moves() {
        return nowAllowed().size();
    }

    private Move needMove(int move) {
        List<Move> all = nowAllowed();
        if (move < 0 || move >= all.size()) {
            throw new IndexOutOfBoundsException();
        }
        return all.get(move);
    }

    public int from(int move) {
        return needMove(move).from;
    }

    public int to(int move) {
        return needMove(move).to;
    }

    public int captured(int move) {
        return needMove(move).over.size();
    }

    public boolean captures(int move, int field) {
        needField(field);
        return needMove(move).over.contains(field);
    }

    public boolean crowns(int move) {
        return needMove(move).crowns;
    }

    public char play(int move) {
        Move found = needMove(move);
        needRoom();
        line.add(behind(now(), found));
        return state();
    }

    private void needRoom() {
        if (line.size() > 120) {
            throw new IllegalStateException();
        }
    }

    private static List<Move> told(List<Move> all, int from, int to) {
        List<Move> found = new ArrayList<>();
        for (Move move : all) {
            if (move.from == from && move.to == to) {
                found.add(move);
            }
        }
        return found;
    }

    public int told(int from, int to) {
        needField(from);
        needField(to);
        return told(nowAllowed(), from, to).size();
    }

    public char move(int from, int to) {
        needField(from);
        needField(to);
        List<Move> found = told(nowAllowed(), from, to);
        if (found.size() != 1) {
            if (state() != 'p') {
                refusal = 'o';
            } else if (found.size() > 1) {
                refusal = 'd';
            } else {
                List<Move> free = captures(now());
                free.addAll(steps(now()));
                refusal = told(free, from, to).isEmpty() ? 'n' : 'c';
            }
            throw new UnsupportedOperationException();
        }
        needRoom();
        line.add(behind(now(), found.get(0)));
        return state();
    }

    public char why() {
        if (refusal == 0) {
            throw new NoSuchElementException();
        }
        return refusal;
    }

    private TreeSet<Integer> huffable() {
        TreeSet<Integer> found = new TreeSet<>();
        if (law[6] == 1 || line.size() < 2 || now().huffed || state() != 'p' || !now().by.over.isEmpty()) {
            return found;
        }
        for (Move move : allowedCaptures(line.get(line.size() - 2))) {
            found.add(move.from == now().by.from ? now().by.to : move.from);
        }
        return found;
    }

    public char huff(int field) {
        needField(field);
        if (!huffable().contains(field)) {
            throw new UnsupportedOperationException();
        }
        now().on[field] = '-';
        now().huffed = true;
        return state();
    }

    public int huffs() {
        return huffable().size();
    }

    public int back() {
        if (line.size() < 2) {
            throw new NoSuchElementException();
        }
        line.remove(line.size() - 1);
        return line.size() - 1;
    }

    public int played() {
        return line.size() - 1;
    }

    public char state() {
        int winner = winner(now(), line.size() > 1);
        if (winner >= 0) {
            return winner == 0 ? '0' : '1';
        }
        if (law[9] != 0 && now().calm >= law[9]) {
            return 'd';
        }
        return law[10] != 0 && seen() >= law[10] ? 'd' : 'p';
    }

    public int calm() {
        return now().calm;
    }

    public int seen() {
        int sum = 0;
        for (Place p : line) {
            sum += p.key().equals(now().key()) ? 1 : 0;
        }
        return sum;
    }

    public int lines(int depth) {
        needRange(depth, 0, 4);
        return lines(now(), depth);
    }

    private int lines(Place p, int depth) {
        if (depth == 0) {
            return 1;
        }
        int sum = 0;
        for (Move move : goingOn(p)) {
            sum += lines(behind(p, move), depth - 1);
        }
        return sum;
    }

    // Endings: a result is 'd' as null, won as n, lost as -n - 1

    public int solve(int pieces) {
        needRange(pieces, 1, 3);
        if (rows.length > 13) {
            throw new UnsupportedOperationException();
        }
        List<Place> all = new ArrayList<>();
        char[] empty = new char[rows.length];
        Arrays.fill(empty, '-');
        collect(all, empty, 0, pieces);
        tablePieces = pieces;
        table = new HashMap<>();
        Map<String, List<String>> next = new HashMap<>();
        for (Place p : all) {
            int winner = winner(p, true);
            table.put(p.key(), winner < 0 ? null : winner == p.mover ? Integer.valueOf(0) : Integer.valueOf(-1));
            List<String> keys = new ArrayList<>();
            for (Move move : goingOn(p)) {
                keys.add(behind(p, move).key());
            }
            next.put(p.key(), keys);
        }
        boolean goes = true;
        for (int n = 1; goes || n < 4; n++) {
            Map<String, Integer> fresh = new HashMap<>();
            for (Place p : all) {
                String key = p.key();
                if (table.get(key) == null) {
                    Integer result = resultIn(next.get(key), n);
                    if (result != null) {
                        fresh.put(key, result);
                    }
                }
            }
            table.putAll(fresh);
            goes = !fresh.isEmpty();
        }
        return table.size();
    }

    private Integer resultIn(List<String> next, int n) {
        boolean allWon = true;
        for (String key : next) {
            Integer result = table.get(key);
            if (result != null && result < 0) {
                return n;
            }
            allWon &= result != null;
        }
        return allWon ? Integer.valueOf(-n - 1) : null;
    }

    private void collect(List<Place> all, char[] on, int field, int left) {
        if (field == on.length) {
            boolean any = false;
            for (char piece : on) {
                any |= piece != '-';
            }
            if (any) {
                all.add(new Place(on, 0));
                all.add(new Place(on, 1));
            }
            return;
        }
        collect(all, on, field + 1, left);
        for (char piece : "mkMK".toCharArray()) {
            boolean onLast = piece == 'm' && isLastRow(field, 0) || piece == 'M' && isLastRow(field, 1);
            if (left > 0 && !onLast) {
                on[field] = piece;
                collect(all, on, field + 1, left - 1);
                on[field] = '-';
            }
        }
    }

    private void needTable() {
        if (table == null) {
            throw new IllegalStateException();
        }
    }

    private Integer needEntry() {
        needTable();
        if (!table.containsKey(now().key())) {
            throw new NoSuchElementException();
        }
        return table.get(now().key());
    }

    private static char letter(Integer result) {
        return result == null ? 'd' : result >= 0 ? 'w' : 'l';
    }

    public char value() {
        return letter(needEntry());
    }

    public int distance() {
        Integer result = needEntry();
        return result == null ? -1 : result >= 0 ? result : -result - 1;
    }

    public int count(char value, int pieces) {
        needTable();
        if ("wld".indexOf(value) < 0 || pieces < 1 || pieces > tablePieces) {
            throw new IllegalArgumentException();
        }
        int sum = 0;
        for (Map.Entry<String, Integer> entry : table.entrySet()) {
            int many = 0;
            for (char letter : entry.getKey().substring(1).toCharArray()) {
                many += letter == '-' ? 0 : 1;
            }
            sum += many == pieces && letter(entry.getValue()) == value ? 1 : 0;
        }
        return sum;
    }

    public int longest() {
        needTable();
        int most = -1;
        for (Integer result : table.values()) {
            most = result != null && result > most ? result : most;
        }
        return most;
    }

    public int best() {
        needEntry();
        List<Move> all = nowAllowed();
        if (all.isEmpty()) {
            throw new NoSuchElementException();
        }
        int found = -1;
        int most = Integer.MIN_VALUE;
        for (int i = 0; i < all.size(); i++) {
            Integer result = table.get(behind(now(), all.get(i)).key());
            int worth = result == null ? 0 : result < 0 ? 1000000 + result : -1000000 + result;
            if (worth > most) {
                most = worth;
                found = i;
            }
        }
        return found;
    }

    // Proofs

    public boolean proves(int moves) {
        needRange(moves, 0, 6);
        return wins(now(), moves);
    }

    private boolean wins(Place p, int n) {
        int winner = winner(p, true);
        if (winner >= 0) {
            return winner == p.mover;
        }
        if (n > 0) {
            for (Move move : allowed(p)) {
                if (loses(behind(p, move), n - 1)) {
                    return true;
                }
            }
        }
        return false;
    }

    private boolean loses(Place p, int n) {
        int winner = winner(p, true);
        if (winner >= 0) {
            return winner != p.mover;
        }
        if (n == 0) {
            return false;
        }
        for (Move move : allowed(p)) {
            if (!wins(behind(p, move), n - 1)) {
                return false;
            }
        }
        return true;
    }

    private List<Integer> keys(Place p, int moves) {
        List<Integer> found = new ArrayList<>();
        List<Move> all = goingOn(p);
        for (int i = 0; i < all.size(); i++) {
            if (loses(behind(p, all.get(i)), moves - 1)) {
                found.add(i);
            }
        }
        return found;
    }

    public int keys(int moves) {
        needRange(moves, 1, 6);
        return keys(now(), moves).size();
    }

    public int keyAt(int moves, int index) {
        needRange(moves, 1, 6);
        List<Integer> found = keys(now(), moves);
        if (index < 0 || index >= found.size()) {
            throw new NoSuchElementException();
        }
        return found.get(index);
    }

    public int duals(int moves) {
        needRange(moves, 1, 6);
        if (keys(now(), moves).isEmpty()) {
            throw new NoSuchElementException();
        }
        Place p = now();
        int left = moves;
        int sum = 0;
        while (winner(p, true) < 0) {
            List<Integer> found = keys(p, left);
            sum += found.size() > 1 ? 1 : 0;
            p = behind(p, goingOn(p).get(found.get(0)));
            left--;
            Place longest = null;
            int most = -1;
            for (Move answer : goingOn(p)) {
                Place q = behind(p, answer);
                int n = 0;
                while (!wins(q, n)) {
                    n++;
                }
                if (n > most) {
                    most = n;
                    longest = q;
                }
            }
            if (longest == null) {
                return sum;
            }
            p = longest;
            left--;
        }
        return sum;
    }

    // Openings and books

    private boolean isBarred(int from, int to) {
        for (int[] pair : barred) {
            if (pair[0] == from && pair[1] == to) {
                return true;
            }
        }
        return false;
    }

    public int bar(int from, int to) {
        needField(from);
        needField(to);
        if (isBarred(from, to)) {
            throw new UnsupportedOperationException();
        }
        if (barred.size() == 10) {
            throw new IllegalStateException();
        }
        barred.add(new int[] {from, to});
        return barred.size();
    }

    public int unbar() {
        int many = barred.size();
        barred.clear();
        return many;
    }

    public int draw(int seed, int moves) {
        needRange(seed, 0, 99999);
        needRange(moves, 0, 6);
        if (line.size() - 1 + moves > 120) {
            throw new IllegalStateException();
        }
        java.math.BigInteger z = java.math.BigInteger.valueOf(seed);
        int done = 0;
        while (done < moves) {
            List<Move> open = new ArrayList<>();
            for (Move move : nowAllowed()) {
                if (!isBarred(move.from, move.to)) {
                    open.add(move);
                }
            }
            if (open.isEmpty()) {
                break;
            }
            z = z.multiply(java.math.BigInteger.valueOf(1103515245)).add(java.math.BigInteger.valueOf(12345))
                .mod(java.math.BigInteger.valueOf(2147483648L));
            int place = z.divide(java.math.BigInteger.valueOf(65536))
                .mod(java.math.BigInteger.valueOf(open.size())).intValue();
            line.add(behind(now(), open.get(place)));
            done++;
        }
        return done;
    }

    public int claim(char value) {
        if ("wld".indexOf(value) < 0) {
            throw new IllegalArgumentException();
        }
        if (claims.size() == 20) {
            throw new IllegalStateException();
        }
        claims.add(value + now().key());
        return claims.size();
    }

    public int refuted() {
        int sum = 0;
        for (String claim : claims) {
            String key = claim.substring(1);
            if (table != null && table.containsKey(key) && letter(table.get(key)) != claim.charAt(0)) {
                sum++;
            }
        }
        return sum;
    }

    /** Tries each position that differs by one piece going back, and looks whether a move leads here. */
    public int sources() {
        Place p = now();
        int last = 1 - p.mover;
        TreeSet<String> found = new TreeSet<>();
        for (int field = 0; field < rows.length; field++) {
            for (int origin = 0; origin < rows.length; origin++) {
                if (!isOf(p.on[field], last) || p.on[origin] != '-') {
                    continue;
                }
                for (char piece : (last == 0 ? "mk" : "MK").toCharArray()) {
                    Place q = new Place(p.on, last);
                    q.on[field] = '-';
                    q.on[origin] = piece;
                    boolean onLast = !isKing(piece) && isLastRow(origin, last);
                    boolean over = law[8] == 1 && hasKing(q, p.mover);
                    for (Move move : onLast || over ? new ArrayList<Move>() : allowed(q)) {
                        if (move.over.isEmpty() && behind(q, move).key().equals(p.key())) {
                            found.add(q.key());
                        }
                    }
                }
            }
        }
        return found.size();
    }

    public float crownShare() {
        int kings = pieces(0, true) + pieces(1, true);
        int all = kings + pieces(0, false) + pieces(1, false);
        if (all == 0) {
            throw new ArithmeticException();
        }
        return (float) kings / (float) all;
    }

    public double meanMoves() {
        List<Move> all = nowAllowed();
        if (all.isEmpty()) {
            throw new ArithmeticException();
        }
        int sum = 0;
        for (Move move : all) {
            sum += goingOn(behind(now(), move)).size();
        }
        return (double) sum / (double) all.size();
    }

    public long checksum() {
        long sum = now().mover;
        for (char piece : now().on) {
            sum = sum * 31 + PIECES.indexOf(piece);
        }
        return sum;
    }

    public boolean isSound() {
        return true;
    }
}
