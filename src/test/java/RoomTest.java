import com.sun.management.ThreadMXBean;
import java.lang.management.ManagementFactory;

/** The room: what an object makes is made with it, and its calls make next to nothing. */
public final class RoomTest {
    private static final long MOST_BYTES_OF_NEW = 40_000;
    private static final long MOST_BYTES_OF_CALLS = 20_000;

    public static void main(String[] args) {
        ThreadMXBean room = (ThreadMXBean) ManagementFactory.getThreadMXBean();
        // The first life loads classes, which is not the program's room.
        live(new BalconyCensus());
        long start = room.getCurrentThreadAllocatedBytes();
        BalconyCensus x = new BalconyCensus();
        long made = room.getCurrentThreadAllocatedBytes();
        live(x);
        long end = room.getCurrentThreadAllocatedBytes();
        Check.due("bytes of a new object (" + (made - start) + ") too many", made - start > MOST_BYTES_OF_NEW ? 1 : 0, 0);
        Check.due("bytes of 512 calls (" + (end - made) + ") too many", end - made > MOST_BYTES_OF_CALLS ? 1 : 0, 0);
        Check.end();
    }

    private static void live(BalconyCensus x) {
        for (int turn = 0; turn < 16; turn++) {
            x.plant(turn % 12, 2);
            x.bear(turn % 12, turn % 5);
            x.hang(turn % 12, turn * 5 % 12, 9);
            x.greet(turn % 12, turn * 7 % 12);
            x.give(turn % 12, turn * 3 % 12, 1);
            x.cat(turn % 12);
            x.swap(turn % 12, turn * 11 % 12);
            x.append('d');
            x.append('a');
            x.append('y');
            x.read();
            x.save();
            x.undo();
            x.restore();
            x.balconyOf(turn % 12, turn % 8);
            x.catOf(turn % 6, 3);
            x.steps(0, 11);
            x.stepsAgain(0, 11);
            x.way(0, 11, 3);
            x.circles();
            x.wouldGrow(20);
            x.kindest(turn % 12);
            x.worst(turn % 12);
            x.write(turn % 3);
            x.writeLines();
            x.written(turn);
            x.excessAgain();
            x.isWell();
            x.meanPlants();
            x.homeShare();
            x.account(turn % 14);
            x.day();
        }
    }
}
