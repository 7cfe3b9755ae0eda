import java.lang.management.ManagementFactory;
import java.lang.management.ThreadMXBean;
import java.lang.reflect.Method;

/** An object and its 512 calls, the dearest there are, take a small part of the room that all calls of a run share. */
public final class RoomTest {
    private static final Bench BENCH = new Bench("RoomTest");
    private static final int CALLS = 512;
    // A twentieth of 7.3 million elements of four bytes.
    private static final long MOST_BYTES = 7_300_000L * 4 / 20;

    private interface Work {
        void call(BerkeleySieve x, int n);
    }

    public static void main(String[] args) throws ReflectiveOperationException {
        ThreadMXBean bean = ManagementFactory.getThreadMXBean();
        Method method;
        try {
            method = Class.forName("com.sun.management.ThreadMXBean").getMethod("getThreadAllocatedBytes", long.class);
        } catch (ReflectiveOperationException missing) {
            System.out.println("RoomTest: this machine doesn't tell how much is made");
            return;
        }
        measured(bean, method, "feed, assemble", RoomTest::assembled);
        measured(bean, method, "feed, compile", RoomTest::compiled);
        measured(bean, method, "put, run, plainer", RoomTest::ran);
        measured(bean, method, "write, out", RoomTest::written);
        BENCH.finish();
    }

    private static void measured(ThreadMXBean bean, Method method, String name, Work work) throws ReflectiveOperationException {
        long thread = Thread.currentThread().getId();
        // Once to load what is used, once to measure it.
        long made = 0;
        for (int round = 0; round < 2; round++) {
            long before = (Long) method.invoke(bean, thread);
            BerkeleySieve x = new BerkeleySieve();
            for (int n = 0; n < CALLS; n++) {
                work.call(x, n);
            }
            made = (Long) method.invoke(bean, thread) - before;
        }
        BENCH.due(name + " makes " + made + " bytes, which is little", made > 0 && made < MOST_BYTES, true);
    }

    /** The lines ret a, neg, tax and txa, time and again. */
    private static void assembled(BerkeleySieve x, int n) {
        if (n % 20 == 19) {
            x.assemble();
        } else {
            x.feed(0x72657420, 0x610a6e65, 0x670a7461, 0x780a7478, 0x610a0a0a);
        }
    }

    /** "1+len+([1]+1)+[len]+" time and again, with a wrong end. */
    private static void compiled(BerkeleySieve x, int n) {
        if (n % 16 == 15) {
            x.compile();
        } else {
            x.feed(0x312b6c65, 0x6e2b285b, 0x315d2b31, 0x292b5b6c, 0x656e5d2b);
        }
    }

    private static void ran(BerkeleySieve x, int n) {
        if (n < 199) {
            x.put(n % 3 == 0 ? 5 : 0x84, 0, 0, 0);
        } else if (n == 199) {
            x.put(6, 0, 0, 0);
        } else if (n < 400) {
            x.run();
        } else {
            x.plainer();
        }
    }

    private static void written(BerkeleySieve x, int n) {
        if (n == 0) {
            x.put(0xb1, 0, 0, -1);
        } else if (n % 2 == 0) {
            x.write(0);
        } else {
            x.out(n % 30);
        }
    }
}
