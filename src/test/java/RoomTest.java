import java.lang.management.ManagementFactory;

/** All calls of one run live in one room: what an object and its 512 calls make stays within it. */
public final class RoomTest {
    private static final int CALLS = 512;
    /** 7.3 million fields and elements of 4 bytes at least. */
    private static final long ROOM = 7300000L * 4;

    private int calls = 0;
    private long sum = 0;
    private final TandemRide x = new TandemRide();

    public static void main(String[] args) {
        Check check = new Check();
        check.promise("the room");
        new RoomTest().useAll();
        long ahead = allocated();
        RoomTest test = new RoomTest();
        test.useAll();
        long made = allocated() - ahead;
        check.due("512 calls make " + made + " bytes, sum " + test.sum, made < ROOM);
        ahead = allocated();
        test = new RoomTest();
        test.useDearest();
        made = allocated() - ahead;
        check.due("512 of the dearest calls make " + made + " bytes, sum " + test.sum, made < ROOM);
        check.end("RoomTest");
    }

    private static long allocated() {
        return ((com.sun.management.ThreadMXBean) ManagementFactory.getThreadMXBean()).getCurrentThreadAllocatedBytes();
    }

    private void seen(long... answers) {
        calls += answers.length;
        for (long answer : answers) sum += answer;
    }

    private void say(String text) {
        for (int i = 0; i < text.length(); i++) seen(x.say(text.charAt(i)));
    }

    private void useAll() {
        for (int i = 0; calls < CALLS - 50; i++) {
            for (int r = 0; r < 4; r++) seen(x.rider(r, 1 + (i + r) % 20, 4 + (i + r) % 7, 9, 5));
            seen(x.seat(i % 2, 2 + i % 2), x.set(0, 5 + i % 15), x.wipe());
            say("uDc");
            seen(x.fault(0), x.way());
            say("21b21b21b");
            seen(x.fault(1), x.tread(0, 4, 4), x.judge(0), x.ridden(-1, 0), x.share(0), x.unseen());
            seen(x.soonest(0), x.oneBeat(4, 4, 1), x.single(0, 1), x.sorts(2), x.uneven(1, 2, 3), x.evenest(2, 1));
            seen(x.calls(2, 1), x.worth(), x.bestPair(0), x.quarrel(99), x.home(3, 99, 0), x.mean(3, 1));
            seen(x.time(0, 1, 1, 20), x.strong(0, 0), x.forget(), x.year(7, 99, 0));
            seen(x.image(0), x.leave(3), x.restore(0), x.told(100));
        }
    }

    /** The longest way, four riders with the most wind, the most heat. */
    private void useDearest() {
        for (int r = 0; r < 4; r++) seen(x.rider(r, 1 + r, 4 + r, 9, 5));
        seen(x.set(0, 20));
        say("dD.UcD~uDd.cUd~uDDcU.dcd");
        seen(x.way(), x.told(7));
        for (int i = 0; calls < CALLS; i++) seen(i % 2 == 0 ? x.bestPair(0) : x.calls(7, 1));
    }
}
