import com.sun.management.ThreadMXBean;
import java.lang.management.ManagementFactory;

/**
 * What the calls of a run make is counted, as all of it lives in one room: the dearest calls make their rows once
 * and use them again, and most make nothing at all.
 */
public final class RoomTest extends Edges {
    private static final ThreadMXBean ROOM = (ThreadMXBean) ManagementFactory.getThreadMXBean();
    private static final int CALLS = 500;
    /** Some 150,000 numbers of a table of three pieces on 5 rows, of four bytes each, and the tables ahead of it. */
    private static final long TABLES = 1_000_000;
    /** What a stack of some thousand moves takes, as it grows. */
    private static final long STACK = 20_000;
    /** As good as nothing: the stack grows once. */
    private static final long NOTHING = 2_000;

    public static void main(String[] args) {
        Check.all(RoomTest.class);
    }

    private interface Run {
        void on(Huffboard board);
    }

    /** The calls are made on two boards: on the first one they make classes, too, which are not counted. */
    private static void atMost(String what, long most, Check.Maker maker, Run run) {
        run.on(maker.make());
        Huffboard board = maker.make();
        long before = ROOM.getCurrentThreadAllocatedBytes();
        run.on(board);
        long bytes = ROOM.getCurrentThreadAllocatedBytes() - before;
        Check.yes(what + " make " + bytes + " bytes, at most " + most, bytes <= most);
    }

    /** A board itself takes some thousand numbers. */
    static void boardsTakeLittle() {
        new Huffboard();
        long before = ROOM.getCurrentThreadAllocatedBytes();
        Huffboard board = new Huffboard();
        long bytes = ROOM.getCurrentThreadAllocatedBytes() - before;
        Check.yes("it takes " + bytes + " bytes", bytes < 10_000 && board.fields() == 18);
    }

    /** Tables take the place of each other. */
    static void tablesTakeTheirRoomOnce() {
        atMost("tables", TABLES, Huffboard::new, board -> {
            for (int i = 0; i < CALLS / 4; i++) {
                board.board(4 + i % 2);
                board.law(i % 2, i / 2 % 2);
                board.solve(1 + i % 3);
                board.isSound();
            }
        });
    }

    /** Lists of moves take the place of each other, in lines and proofs, too. */
    static void searchesTakeTheirRoomOnce() {
        String pieces = "k4 k18 k20 k28 k3 M24 M5 M7 M14 M13 M23 M25 M6 M15";
        atMost("searches", STACK, () -> Boards.of(8, "0=1 1=1 4=1 6=0", pieces), board -> {
            for (int i = 0; i < 4; i++) {
                board.lines(2);
                board.proves(3);
                board.keys(2);
                board.meanMoves();
            }
        });
    }

    /** Games make nothing: moves, huffing, taking back, openings, claims and bars. */
    static void gamesMakeNothing() {
        atMost("games", NOTHING, () -> Boards.of(6, "6=0", "k15 K2 m13 M10 m17 M5"), board -> {
            for (int i = 0; i < CALLS / 25; i++) {
                board.draw(i, 6);
                board.huffs();
                board.seen();
                board.state();
                board.sources();
                board.refuted();
                board.checksum();
                for (int left = board.played(); left > 0; left--) {
                    board.back();
                }
            }
        });
    }
}
