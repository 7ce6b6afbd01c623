import com.sun.management.ThreadMXBean;
import java.lang.management.ManagementFactory;

/**
 * All calls of a run live in one room, and rows that are made in constructors are used again: a
 * full hall's calls make no objects but exceptions.
 */
final class RoomTest {
    private static final int HALLS = 32;
    private static final int MOST_CALLS = 512;
    private static final int CALLS_OF_FULL_HALL = 19;
    private static final int CALLS_OF_ALL = 27;
    private static final int TIMES = (MOST_CALLS - CALLS_OF_FULL_HALL) / CALLS_OF_ALL;
    private static final long BYTES_OF_ONE_OBJECT = 32;
    /** Of 7.3 million elements each has a byte at least; 600,000 objects have more bytes. */
    private static final long BYTES_OF_ROOM = 7_300_000L;

    private interface Run {
        void on(HallSights hall);
    }

    private RoomTest() {
    }

    public static void main(String[] args) {
        if (ManagementFactory.getThreadMXBean() instanceof ThreadMXBean threads
                && threads.isThreadAllocatedMemorySupported()) {
            callsMakeNoObjects(threads);
            runFits(threads, "a run of digests", x -> {
                for (int call = CALLS_OF_FULL_HALL; call < MOST_CALLS; call++) {
                    x.digest();
                }
            });
            runFits(threads, "a run of all calls", x -> callAll(x, TIMES));
            runFits(threads, "a run of refused calls", x -> {
                for (int call = CALLS_OF_FULL_HALL; call < MOST_CALLS; call++) {
                    Edge.throwsJust("addRow() to 10", Edge.STATE, x, y -> y.addRow(1, 0, 1));
                }
            });
        }
        Check.end("RoomTest");
    }

    private static void callsMakeNoObjects(ThreadMXBean threads) {
        callAll(fullHall(), 1);
        HallSights[] halls = new HallSights[HALLS];
        for (int hall = 0; hall < HALLS; hall++) {
            halls[hall] = fullHall();
        }
        long before = threads.getThreadAllocatedBytes(Thread.currentThread().getId());
        for (HallSights hall : halls) {
            callAll(hall, TIMES);
        }
        long bytes = threads.getThreadAllocatedBytes(Thread.currentThread().getId()) - before;
        Check.holds(bytes + " bytes for " + HALLS * TIMES + " times all calls are next to none",
                bytes < HALLS * TIMES * BYTES_OF_ONE_OBJECT);
    }

    /** One object, from its making to its 512th call. */
    private static void runFits(ThreadMXBean threads, String what, Run run) {
        long before = threads.getThreadAllocatedBytes(Thread.currentThread().getId());
        run.on(fullHall());
        long bytes = threads.getThreadAllocatedBytes(Thread.currentThread().getId()) - before;
        Check.holds(what + " fits the room with its " + bytes + " bytes", bytes < BYTES_OF_ROOM);
    }

    private static HallSights fullHall() {
        HallSights x = new HallSights();
        for (int row = 0; row < 10; row++) {
            x.addRow(10 + row * 10, 0, 12);
        }
        for (int row = 0; row < 10; row += 2) {
            x.seatParty(12);
        }
        for (int column = 0; column < 4; column++) {
            x.addColumn(5 + column * 20, column, 1);
        }
        return x;
    }

    /** 27 calls each time. */
    private static void callAll(HallSights x, int times) {
        for (int time = 0; time < times; time++) {
            x.digest();
            x.best(time % 60);
            x.seat(9, 11, 6);
            x.row(9, 4);
            x.column(3, 3);
            x.count(6);
            x.whoBlocks(9, 5);
            x.leastHeight(9);
            x.ifLifted(9, time);
            x.ifTaken(0, 0);
            x.worstColumn();
            x.seeingShare();
            x.liftAll();
            x.seatParty(1);
            x.undo();
            x.clear();
            x.undo();
            x.undo();
            x.clearBuffer();
            Check.write(x, "10^0*1");
            x.firstError();
            x.addAll();
        }
    }
}
