import java.lang.management.ManagementFactory;

/** All calls of a run live in one room: an object is small, and calls make nothing more (but an image when it is new). */
public final class RoomTest {
    private static final int NONE = ElsewhereStamps.NONE;
    private static final int OBJECTS = 200;
    private static final Check check = new Check("RoomTest");

    private RoomTest() {
    }

    public static void main(String[] args) {
        if (!(ManagementFactory.getThreadMXBean() instanceof com.sun.management.ThreadMXBean bean)) {
            throw new IllegalStateException("this machine does not count what is made");
        }
        long id = Thread.currentThread().getId();
        ElsewhereStamps[] kept = new ElsewhereStamps[OBJECTS];
        dearCalls(new ElsewhereStamps());
        long before = bean.getThreadAllocatedBytes(id);
        for (int i = 0; i < OBJECTS; i++) {
            kept[i] = new ElsewhereStamps();
            for (int k = 0; k < 3; k++) {
                kept[i].image(k);
            }
        }
        long each = (bean.getThreadAllocatedBytes(id) - before) / OBJECTS;
        // 7.3 million elements of at most 8 bytes: a thousand objects with their images take less.
        check.same("an object and its images are small: " + each + " bytes", each < 50000, true);
        ElsewhereStamps x = kept[0];
        tellAll(x);
        dearCalls(x);
        before = bean.getThreadAllocatedBytes(id);
        for (int i = 0; i < 100; i++) {
            dearCalls(x);
        }
        long made = bean.getThreadAllocatedBytes(id) - before;
        check.same("calls make nothing: " + made + " bytes", made < 20000, true);
        check.finish();
    }

    private static void tellAll(ElsewhereStamps x) {
        Tape.tell(x, Tales.RAIL, Tape.RAIL, NONE);
        Tape.tell(x, Tales.MONTH, Tape.MONTH, NONE);
        Tape.tell(x, Tales.LOG, Tape.LOG, NONE);
    }

    private static void dearCalls(ElsewhereStamps x) {
        x.feed(0x6c616e64, 0x7320343b, 0x20202020, 0x20202020, 0x20202020);
        x.text(0, x.count(0) < 2 ? NONE : 1);
        for (int i = 0; i < 40; i++) {
            x.cut(0, 3, 0, 2, true);
            x.trains(0, 0);
            x.trains(0, 2);
            x.could(0, 0, -2);
            x.certain(0, 0, true);
            x.round(0, 0, 0);
            x.offices(0, 2, true);
            x.drawn(0, i, 60, 0);
            x.state(0, 0, 7, 0);
            x.after(0, 0, 10);
            x.ledge(0, 1, true);
            x.orders(0, 1, NONE);
            x.ring(0, 1);
            x.latest(0, 0, 2, 99);
            x.mean(0, 0, 3, 3, true);
        }
        x.image(2);
        x.again(2);
    }
}
