import java.lang.management.ManagementFactory;

/** No call makes anything: all rows are made with the object and used again, and they are few. */
public final class RoomTest {
    private static final int CALLS = 512;

    public static void main(String[] args) {
        Check check = new Check();
        check.promise("the room");
        TandemRide warm = new TandemRide();
        useAll(warm, 3);
        long ahead = allocated();
        TandemRide x = new TandemRide();
        long made = allocated() - ahead;
        check.due("an object of " + made + " bytes is small", made < 40000);
        ahead = allocated();
        long sum = useAll(x, CALLS);
        made = allocated() - ahead;
        check.due("calls make " + made + " bytes, sum " + sum, made < 1000);
        check.end("RoomTest");
    }

    private static long allocated() {
        return ((com.sun.management.ThreadMXBean) ManagementFactory.getThreadMXBean()).getCurrentThreadAllocatedBytes();
    }

    private static long useAll(TandemRide x, int times) {
        long sum = 0;
        for (int i = 0; i < times; i++) {
            for (int r = 0; r < 4; r++) sum += x.rider(r, 1 + (i + r) % 20, 4 + (i + r) % 7, 9, 5);
            sum += x.seat(i % 2, 2 + i % 2) + x.set(0, 5 + i % 15) + x.set(1, i % 60);
            sum += x.wipe() + x.say('u') + x.say('D') + x.say('c') + x.fault(0) + x.way();
            for (int k = 0; k < 3; k++) sum += x.say('2') + x.say('1') + x.say('b');
            sum += x.fault(1) + x.tread(0, 4, 4) + x.judge(0) + x.ridden(-1, 0) + x.share(0) + x.unseen();
            sum += x.soonest(0) + x.oneBeat(4, 4, 1) + x.single(0, 1) + x.sorts(2) + x.uneven(1, 2, 3);
            sum += x.evenest(2, 1) + x.calls(2, 1) + x.worth() + x.bestPair(0) + x.quarrel(99) + x.home(3, 99, 0);
            sum += x.mean(3, 1) + x.time(0, 1, 1, 20) + x.strong(0, 0) + x.forget() + x.year(7, 99, 0);
            sum += x.image(0) + x.leave(3) + x.restore(0) + x.told(100);
        }
        return sum;
    }
}
