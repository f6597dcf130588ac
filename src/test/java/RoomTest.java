import com.sun.management.ThreadMXBean;
import java.lang.management.ManagementFactory;

/** All calls share one room that is never swept: no call may make an object. The dearest calls are tried for it. */
public final class RoomTest {
    private static final Check CHECK = new Check("RoomTest");
    private static final ThreadMXBean BEAN = (ThreadMXBean) ManagementFactory.getThreadMXBean();

    public static void main(String[] args) {
        FallBench warm = dearest();
        callAll(warm);
        long before = made();
        long asking = made() - before;
        FallBench x = dearest();
        before = made();
        int sum = callAll(x);
        long bytes = made() - before - asking;
        CHECK.due("bytes made by all calls (" + sum + ")", bytes, 0);
        CHECK.due("small of many bytes", x.small(1, 0), 24);
        CHECK.due("nearest of none that ends well", x.nearest(0, 0), FallBench.NONE);
        CHECK.finish();
    }

    private static long made() {
        return BEAN.getThreadAllocatedBytes(Thread.currentThread().getId());
    }

    /** Reads all 24 bytes; on SHELF 0 it is endless then, on SHELF 1 it ends badly just short of that. */
    private static FallBench dearest() {
        FallBench x = new FallBench();
        String readAll = "set r1 24\nset r2 1\na:in r0\nadd r4 r0\nadd r3 r2\nless r3 r1 a\n";
        Check.program(x, 0, readAll + "b:go b");
        Check.program(x, 1, readAll + "set r5 240\nsame r4 r5 f\nstop\nf:set r1 440\nb:add r3 r2\nless r3 r1 b\nload r6 r3");
        int[] tens = new int[24];
        java.util.Arrays.fill(tens, 10);
        for (int i = 0; i < 30; i++) {
            Check.input(x, tens);
        }
        return x;
    }

    private static int callAll(FallBench x) {
        int sum = 0;
        for (int shelf = 0; shelf < 3; shelf++) {
            sum += x.run(shelf, 0) + x.ran(0) + x.told(0) + x.left(0) + x.leftOf(0, 1);
            sum += x.heaps(shelf) + x.heap(shelf, 0, 1) + x.heapOf(shelf, 0);
            sum += x.small(shelf, 0) + x.smallByte(0, true) + x.ruled(shelf, 0);
            sum += x.nearest(shelf, 0) + x.nearestByte(shelf, 0);
            sum += x.held(shelf, 1, 0) + x.heldAll(shelf, 1, 4);
        }
        x.drop();
        sum += x.feed(1, 2, 3, 4, 5) + x.end(10) + x.input() + x.byteOf(29, 0);
        sum += x.feed(0x73746f70, 0x0a73746f, 0x700a6120, 0x3a20676f, 0x20612020);
        return sum + x.program(2) + x.fault(0) + x.act(2, 0, 0) + x.about(12);
    }
}
