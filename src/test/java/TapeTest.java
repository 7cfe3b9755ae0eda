/** Promises 1, 2, 3, 12 and 18: a new object, feed, end, packet, count. */
public final class TapeTest {
    private static final Bench BENCH = new Bench("TapeTest");

    public static void main(String[] args) {
        newObject();
        feedAndEnd();
        fullTape();
        packets();
        counts();
        BENCH.finish();
    }

    private static void newObject() {
        BerkeleySieve x = new BerkeleySieve();
        for (int what = 0; what < 4; what++) {
            BENCH.due("new, count(" + what + ")", x.count(what), 0);
        }
        BENCH.due("new, why()", x.why(), 7);
        BENCH.due("new, bad()", x.bad(), -1);
        BENCH.due("new, fault(0)", x.fault(0), 0);
        BENCH.due("new, fault(1)", x.fault(1), -1);
        BENCH.due("new, fault(2)", x.fault(2), -1);
        BENCH.due("new, fault(-1)", x.fault(-1), -1);
        BENCH.due("new, out(0)", x.out(0), -1);
        BENCH.due("new, run()", x.run(), -1);
        BENCH.due("new, plainer()", x.plainer(), -1);
        BENCH.due("new, write(0)", x.write(0), -1);
        BENCH.due("new, clear()", x.clear(), 0);
        for (int what = -1; what < 30; what++) {
            BENCH.due("new, ran(" + what + ")", x.ran(what), 0);
        }
        BENCH.due("NONE", BerkeleySieve.NONE, -1);
    }

    private static void feedAndEnd() {
        BerkeleySieve x = new BerkeleySieve();
        BENCH.due("end(0) of none", x.end(0), true);
        BENCH.due("end(1) of none", x.end(1), false);
        BENCH.due("feed", x.feed(0x01020304, 0x05060708, 0x090a0b0c, 0x0d0e0f10, 0xfffefdfc), 20);
        BENCH.due("end(21)", x.end(21), false);
        BENCH.due("end(-1)", x.end(-1), false);
        BENCH.due("end(lowest)", x.end(Integer.MIN_VALUE), false);
        BENCH.due("count(2)", x.count(2), 20);
        BENCH.due("end(20)", x.end(20), true);
        BENCH.due("packet()", x.packet(), 20);
        x.put(0x30, 0, 0, 0);
        x.put(0x16, 0, 0, 0);
        for (int place = 0; place < 20; place++) {
            x.clear();
            x.put(0x30, 0, 0, place);
            x.put(0x16, 0, 0, 0);
            x.run();
            BENCH.due("byte " + place, x.ran(0), place < 16 ? place + 1 : 271 - place);
        }
        x.feed(1, 2, 3, 4, 5);
        BENCH.due("end(3)", x.end(3), true);
        BENCH.due("feed behind three", x.feed(1, 2, 3, 4, 5), 23);
        BENCH.due("end(24)", x.end(24), false);
        BENCH.due("count(2) then", x.count(2), 23);
    }

    private static void fullTape() {
        BerkeleySieve x = new BerkeleySieve();
        for (int n = 1; n <= 200; n++) {
            BENCH.due("feed number " + n, x.feed(n, n, n, n, n), 20 * n);
        }
        BENCH.due("feed number 201", x.feed(1, 1, 1, 1, 1), -1);
        BENCH.due("count(2)", x.count(2), 4000);
        BENCH.due("end(3981)", x.end(3981), true);
        BENCH.due("feed behind 3981", x.feed(1, 1, 1, 1, 1), -1);
        BENCH.due("count(2) then", x.count(2), 3981);
        BENCH.due("end(3980)", x.end(3980), true);
        BENCH.due("feed behind 3980", x.feed(1, 1, 1, 1, 1), 4000);
    }

    private static void packets() {
        BerkeleySieve x = new BerkeleySieve();
        for (int n = 0; n < 31; n++) {
            x.feed(0, 0, 0, 0, n);
        }
        x.end(601);
        BENCH.due("packet() of 601", x.packet(), -1);
        BENCH.due("count(2)", x.count(2), 601);
        BENCH.due("count(1)", x.count(1), 0);
        x.end(600);
        BENCH.due("packet() of 600", x.packet(), 600);
        BENCH.due("count(2) then", x.count(2), 0);
        BENCH.due("count(1) then", x.count(1), 600);
        for (int n = 0; n < 31; n++) {
            x.feed(-1, -1, -1, -1, -1);
        }
        BENCH.due("packet() of 620", x.packet(), -1);
        BENCH.due("count(1) stays", x.count(1), 600);
        x.put(0x20, 0, 0, 596);
        x.put(0x16, 0, 0, 0);
        x.run();
        BENCH.due("the packet stays", x.ran(0), 29);
        x.end(0);
        BENCH.due("packet() of none", x.packet(), 0);
        BENCH.due("run() on none", x.run(), 0);
    }

    private static void counts() {
        BerkeleySieve x = new BerkeleySieve();
        x.put(0, 0, 0, 7);
        x.put(6, 0, 0, 7);
        Bench.packet(x, 1, 2, 3);
        x.feed(0, 0, 0, 0, 0);
        x.write(0);
        BENCH.due("count(0)", x.count(0), 2);
        BENCH.due("count(1)", x.count(1), 3);
        BENCH.due("count(2)", x.count(2), 20);
        BENCH.due("count(3)", x.count(3), 5);
        BENCH.due("count(4)", x.count(4), -1);
        BENCH.due("count(-1)", x.count(-1), -1);
        BENCH.due("count(highest)", x.count(Integer.MAX_VALUE), -1);
    }
}
