import com.sun.management.ThreadMXBean;
import java.lang.management.ManagementFactory;

/** A run of the dearest calls stays within a small part of the room: 7.3 million fields and elements. */
public final class RoomTest {
    private static final ThreadMXBean THREADS = (ThreadMXBean) ManagementFactory.getThreadMXBean();
    /** Were each field and element a byte alone, this would be half the room; they are more. */
    private static final long MOST_BYTES = 3_600_000;

    public static void main(String[] args) {
        for (int dear = 0; dear < 6; dear++) {
            run(dear);
            long before = THREADS.getCurrentThreadAllocatedBytes();
            run(dear);
            long made = THREADS.getCurrentThreadAllocatedBytes() - before;
            if (made > MOST_BYTES) {
                Script.fail("dear call " + dear + " made " + made + " bytes");
            }
            Script.due("run " + dear, made > 0 ? 1 : 0, 1);
        }
        Script.finish();
    }

    private static void run(int dear) {
        BoreDesk desk = new BoreDesk();
        for (int h = 0; h < 24; h++) {
            desk.hole(h, h * h);
        }
        for (int l = 0; l < 16; l++) {
            desk.layer(l == 0 ? 2 : 0);
        }
        for (int s = 0; s < 6; s++) {
            desk.doubles(0, s, 300);
        }
        for (int h = 0; h < 24; h++) {
            desk.lay(0, h, 5);
        }
        for (int k = 70; k < 512; k++) {
            dearCall(desk, dear, k);
        }
    }

    private static void dearCall(BoreDesk desk, int dear, int k) {
        switch (dear) {
            case 0:
                desk.fill(0, 0, 0, 300, k, 0, 1);
                break;
            case 1:
                desk.splice(0, 0, k % 24, 0, 6);
                break;
            case 2:
                if (k % 2 == 0) {
                    desk.shift(0);
                } else {
                    desk.back(0);
                }
                break;
            case 3:
                desk.doubles(k % 24, k % 6, 300);
                break;
            case 4:
                desk.copy(0, 0, 0, 0, 1, 0, 300);
                break;
            default:
                desk.lay(k % 15 + 1, k % 24, 100);
        }
    }
}
