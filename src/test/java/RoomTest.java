import com.sun.management.ThreadMXBean;
import java.lang.management.ManagementFactory;

/** A full hall's calls make no objects. */
final class RoomTest {
    private static final int HALLS = 32;
    /** Each time is 28 calls, so that no hall is called more than 512 times. */
    private static final int TIMES = 16;
    private static final long BYTES_OF_ONE_OBJECT = 32;

    private RoomTest() {
    }

    public static void main(String[] args) {
        if (ManagementFactory.getThreadMXBean() instanceof ThreadMXBean threads
                && threads.isThreadAllocatedMemorySupported()) {
            callAll(fullHall(), 1);
            HallSights[] halls = new HallSights[HALLS];
            for (int hall = 0; hall < HALLS; hall++) {
                halls[hall] = fullHall();
            }
            long before = threads.getThreadAllocatedBytes(Thread.currentThread().getId());
            for (HallSights hall : halls) {
                callAll(hall, TIMES);
            }
            long bytes = threads.getThreadAllocatedBytes(Thread.currentThread().getId()) - before;
            Check.holds(bytes + " bytes for " + HALLS * TIMES + " times all calls are next to none",
                    bytes < HALLS * TIMES * BYTES_OF_ONE_OBJECT);
        }
        Check.end("RoomTest");
    }

    private static HallSights fullHall() {
        HallSights x = new HallSights();
        for (int row = 0; row < 10; row++) {
            x.addRow(10 + row * 10, 0, 12);
        }
        for (int row = 0; row < 10; row += 2) {
            x.seatParty(12);
        }
        for (int column = 0; column < 4; column++) {
            x.addColumn(5 + column * 20, column, 1);
        }
        return x;
    }

    private static void callAll(HallSights x, int times) {
        for (int time = 0; time < times; time++) {
            x.digest();
            x.best(time % 60);
            x.seat(9, 11, 6);
            x.row(9, 4);
            x.column(3, 3);
            x.count(6);
            x.whoBlocks(9, 5);
            x.leastHeight(9);
            x.ifLifted(9, time);
            x.ifTaken(0, 0);
            x.worstColumn();
            x.seeingShare();
            x.liftAll();
            x.seatParty(1);
            x.undo();
            x.clear();
            x.undo();
            x.undo();
            x.clearBuffer();
            Check.write(x, "10^0*1");
            x.firstError();
            x.addAll();
        }
    }
}
