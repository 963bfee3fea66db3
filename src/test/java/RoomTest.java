import com.sun.management.ThreadMXBean;
import java.lang.management.ManagementFactory;

/** 512 calls of the dearest kinds stay within the room of a run: few bytes are made. */
public final class RoomTest {
    private static final int CALLS = 512;
    private static final Check check = new Check();
    private static final ThreadMXBean THREAD = (ThreadMXBean) ManagementFactory.getThreadMXBean();

    public static void main(String[] args) {
        // Once ahead, so that what the machine itself makes at the first call is not counted.
        measured(Stores.dearest(), 1);
        measured(Stores.dearest(), 0);
        long whole = measured(Stores.dearest(), 0);
        check.due("512 digests make " + whole + " bytes, less than 200000", whole < 200000, true);
        long texts = measured(Stores.dearest(), 1);
        // A text of 4264 signs a call; a sign is a byte here.
        check.due("512 texts make " + texts + " bytes, less than 2600000", texts < 2600000, true);
        long rows = measured(Stores.dearest(), 2);
        check.due("512 twins of one row make " + rows + " bytes, less than 400000", rows < 400000, true);
        check.end();
    }

    private static long measured(Deeprows x, int what) {
        long before = THREAD.getCurrentThreadAllocatedBytes();
        for (int call = 0; call < CALLS; call++) {
            switch (what) {
                case 0: x.digest(); break;
                case 1: check.due("length", x.text(11).length(), 4264); break;
                default: x.drop(); x.twin(0);
            }
        }
        return THREAD.getCurrentThreadAllocatedBytes() - before;
    }
}
