import com.sun.management.ThreadMXBean;
import java.lang.management.ManagementFactory;

/** All rows are made in the constructor: no other call that answers makes an object or an array. */
public final class RoomTest {
    private static final Expect EXPECT = new Expect();
    // As some rounds are three calls, no object gets more than its 512.
    private static final int ROUNDS = 150;
    private static final int OBJECTS = 50;
    // Below the bytes of one object a round, with room for what the machine itself makes by the way.
    private static final long MOST_BYTES = 8 * ROUNDS * OBJECTS;

    private interface Call {
        long on(FieldCodes x);
    }

    private final ThreadMXBean room;

    private RoomTest(ThreadMXBean room) {
        this.room = room;
    }

    public static void main(String[] args) {
        if (ManagementFactory.getThreadMXBean() instanceof ThreadMXBean room
            && room.isThreadAllocatedMemorySupported() && room.isThreadAllocatedMemoryEnabled()) {
            new RoomTest(room).run();
        } else {
            System.out.println("this machine does not tell what a call makes");
        }
        EXPECT.end();
    }

    private void run() {
        makesNothing("product", x -> x.product(99, 200));
        makesNothing("quotient", x -> x.quotient(99, 200));
        makesNothing("power", x -> x.power(-1000));
        makesNothing("logarithm", x -> x.logarithm(99));
        makesNothing("put", x -> x.put(8, 1L));
        makesNothing("wipe", FieldCodes::wipe);
        makesNothing("at", x -> x.at(3));
        makesNothing("spoil", x -> x.spoil(3, 4));
        makesNothing("value", x -> x.value(5));
        makesNothing("put, check and wipe", x -> x.wipe() + x.put(8, 9L) + x.check(68));
        makesNothing("isCode", x -> x.isCode(68) ? 1 : 0);
        makesNothing("correct", x -> x.spoil(9, 9) + x.spoil(10, 1) + x.correct(60, 30));
        makesNothing("correct of too many", x -> x.spoil(9, 9) + x.correct(60, 0));
        makesNothing("changed", x -> x.changed(0));
        makesNothing("word15", x -> x.word15(30));
        makesNothing("read15", x -> x.read15(15));
        makesNothing("word18", x -> x.word18(60));
        makesNothing("read18", x -> x.read18(15));
    }

    private void makesNothing(String told, Call call) {
        // Once before it counts, as the machine makes things of its own for a first call.
        bytesMadeBy(call);
        long bytes = 0;
        for (int k = 0; k < OBJECTS; k++) {
            bytes += bytesMadeBy(call);
        }
        EXPECT.holds(told + " made " + bytes + " bytes", bytes < MOST_BYTES);
    }

    private long bytesMadeBy(Call call) {
        FieldCodes x = Words.holding(new int[70]);
        long before = room.getCurrentThreadAllocatedBytes();
        for (int k = 0; k < ROUNDS; k++) {
            call.on(x);
        }
        return room.getCurrentThreadAllocatedBytes() - before;
    }
}
