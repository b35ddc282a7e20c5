/** Promises 1 to 10: a new object, riders, seats, settings, the pad, ways, treads. */
public final class RidersTest {
    private static final Check CHECK = new Check();

    public static void main(String[] args) {
        aNewObject();
        rider();
        leave();
        seat();
        set();
        say();
        wipe();
        faultOfWay();
        faultOfPlan();
        way();
        tread();
        CHECK.end("RidersTest");
    }

    private static void due(String call, long got, long want) {
        CHECK.due(call, got, want);
    }

    private static void aNewObject() {
        CHECK.promise("1 a new object");
        TandemRide x = new TandemRide();
        int[] told = {0, 0, 0, 1, 10, 60, 10, 1, 0, -2};
        for (int what = 0; what < told.length; what++) due("told(" + what + ")", x.told(what), told[what]);
        for (int what = 10; what < 50; what++) due("told(" + what + ")", x.told(what), -2);
        due("told(100)", x.told(100), '.');
        due("told(101)", x.told(101), -2);
        due("restore(0)", x.restore(0), -3);
        due("restore(1)", x.restore(1), -3);
    }

    private static void rider() {
        CHECK.promise("2 rider");
        TandemRide x = new TandemRide();
        due("rider(0, 1, 4, 1, 0)", x.rider(0, 1, 4, 1, 0), 1);
        due("rider(3, 20, 10, 9, 50)", x.rider(3, 20, 10, 9, 50), 2);
        due("rider(3, 19, 9, 8, 49)", x.rider(3, 19, 9, 8, 49), 2);
        due("told(40)", x.told(40), 19);
        due("told(41)", x.told(41), 9);
        due("told(42)", x.told(42), 8);
        due("told(43)", x.told(43), 49);
        int[][] outside = {{0, 4, 1, 0}, {21, 4, 1, 0}, {1, 3, 1, 0}, {1, 11, 1, 0}, {1, 4, 0, 0}, {1, 4, 10, 0},
            {1, 4, 1, -1}, {1, 4, 1, 51}, {Integer.MIN_VALUE, 4, 1, 0}, {1, Integer.MAX_VALUE, 1, 0}};
        for (int[] v : outside) due("rider(2, ..)", x.rider(2, v[0], v[1], v[2], v[3]), -2);
        due("rider(-1, 0, 0, 0, 0)", x.rider(-1, 0, 0, 0, 0), -1);
        due("rider(4, 1, 4, 1, 0)", x.rider(4, 1, 4, 1, 0), -1);
        due("rider(MAX, ..)", x.rider(Integer.MAX_VALUE, 1, 4, 1, 0), -1);
        due("rider(3, 0, ..) leaves it as it was", x.rider(3, 0, 4, 1, 0), -2);
        due("told(40)", x.told(40), 19);
        due("told(1)", x.told(1), 9);
    }

    private static void leave() {
        CHECK.promise("3 leave");
        TandemRide x = new TandemRide();
        due("leave(0)", x.leave(0), -1);
        x.rider(0, 5, 5, 5, 5);
        x.rider(1, 6, 6, 6, 6);
        due("leave(0)", x.leave(0), 1);
        due("leave(0) again", x.leave(0), -1);
        due("leave(-1)", x.leave(-1), -1);
        due("leave(4)", x.leave(4), -1);
        due("told(10)", x.told(10), -2);
        due("told(20)", x.told(20), 6);
        due("told(1)", x.told(1), 2);
        due("told(2)", x.told(2), 0);
        due("leave(1)", x.leave(1), 0);
    }

    private static void seat() {
        CHECK.promise("4 seat");
        TandemRide x = new TandemRide();
        due("seat(0, 1)", x.seat(0, 1), -1);
        x.rider(2, 5, 5, 5, 5);
        x.rider(3, 6, 6, 6, 6);
        due("seat(2, 2)", x.seat(2, 2), -1);
        due("seat(2, 0)", x.seat(2, 0), -1);
        due("seat(1, 3)", x.seat(1, 3), -1);
        due("seat(2, 4)", x.seat(2, 4), -1);
        due("seat(-1, 2)", x.seat(-1, 2), -1);
        due("told(2)", x.told(2), 0);
        due("told(3)", x.told(3), 1);
        due("seat(3, 2)", x.seat(3, 2), 1);
        due("told(2)", x.told(2), 3);
        due("told(3)", x.told(3), 2);
        x.leave(3);
        due("told(2) when 3 has left", x.told(2), 3);
    }

    private static void set() {
        CHECK.promise("5 set");
        TandemRide x = new TandemRide();
        due("set(0, 5)", x.set(0, 5), 10);
        due("set(0, 20)", x.set(0, 20), 5);
        due("set(0, 4)", x.set(0, 4), -2);
        due("set(0, 21)", x.set(0, 21), -2);
        due("told(4)", x.told(4), 20);
        due("set(1, 0)", x.set(1, 0), 60);
        due("set(1, 99)", x.set(1, 99), 0);
        due("set(1, -1)", x.set(1, -1), -2);
        due("set(1, 100)", x.set(1, 100), -2);
        due("told(5)", x.told(5), 99);
        due("set(2, 0)", x.set(2, 0), 10);
        due("set(2, 50)", x.set(2, 50), 0);
        due("set(2, -1)", x.set(2, -1), -2);
        due("set(2, 51)", x.set(2, 51), -2);
        due("told(6)", x.told(6), 50);
        due("set(-1, 10)", x.set(-1, 10), -2);
        due("set(3, 10)", x.set(3, 10), -2);
    }

    private static void say() {
        CHECK.promise("6 say");
        TandemRide x = new TandemRide();
        due("say(32)", x.say(32), -2);
        due("say(127)", x.say(127), -2);
        due("say(-1)", x.say(-1), -2);
        for (int i = 1; i <= 110; i++) due("say, the " + i + "th", x.say(i % 2 == 0 ? 33 : 126), i);
        due("say(33) when the pad is full", x.say(33), -4);
        due("say(32) when the pad is full", x.say(32), -2);
        due("told(0)", x.told(0), 110);
    }

    private static void wipe() {
        CHECK.promise("7 wipe");
        TandemRide x = new TandemRide();
        due("wipe()", x.wipe(), 0);
        Check.say(x, "uU");
        due("wipe()", x.wipe(), 2);
        due("wipe()", x.wipe(), 0);
        due("told(0)", x.told(0), 0);
        due("say(99)", x.say(99), 1);
    }

    private static void faultOfWay() {
        CHECK.promise("8 fault of ways");
        TandemRide x = new TandemRide();
        due("fault(-1)", x.fault(-1), -2);
        due("fault(2)", x.fault(2), -2);
        String[] pads = {"", ".", "uUdDc~.", "x", "ccC", "u u", "........................",
            ".........................", "........................x", ".......................x."};
        int[] faults = {0, -6, -6, 0, 2, 1, -6, 24, 24, 23};
        pads[5] = "u!u";
        for (int i = 0; i < pads.length; i++) {
            Check.pad(x, pads[i]);
            due("fault(0) of " + pads[i], x.fault(0), faults[i]);
        }
        due("told(0), as a fault changes nothing", x.told(0), 25);
    }

    private static void faultOfPlan() {
        CHECK.promise("8 fault of plans");
        TandemRide x = new TandemRide();
        Check.takeWay(x, "du");
        String[] pads = {"", "0", "00", "00a", "00a44g", "R00aR44g", "R00a44gR", "00a44g0", "5", "05", "00h", "00A",
            "RR", "0R", "00R", "00aRR", "00a44h", "00aa", "00a00`", "0/", "0:"};
        int[] faults = {0, 1, 2, 3, -6, -6, 7, 6, 0, 1, 2, 2, 1, 1, 2, 4, 5, 3, 5, 1, 1};
        for (int i = 0; i < pads.length; i++) {
            Check.pad(x, pads[i]);
            due("fault(1) of " + pads[i], x.fault(1), faults[i]);
        }
        Check.takeWay(x, "........................");
        StringBuilder longest = new StringBuilder();
        for (int i = 0; i < 24; i++) longest.append("R22d");
        Check.pad(x, longest.toString());
        due("fault(1) of the longest plan", x.fault(1), -6);
        x.say('R');
        due("fault(1) of one sign more", x.fault(1), 96);
    }

    private static void way() {
        CHECK.promise("9 way");
        TandemRide x = new TandemRide();
        due("way() of nothing", x.way(), -5);
        Check.say(x, "uUx");
        due("way() of uUx", x.way(), -5);
        due("told(0)", x.told(0), 3);
        due("told(7)", x.told(7), 1);
        Check.pad(x, ".uUdDc~");
        due("way()", x.way(), 7);
        due("told(0)", x.told(0), 0);
        for (int i = 0; i < 7; i++) due("told(" + (100 + i) + ")", x.told(100 + i), ".uUdDc~".charAt(i));
        due("told(107)", x.told(107), -2);
        Check.pad(x, "d");
        due("way() of d", x.way(), 1);
        due("told(100)", x.told(100), 'd');
        due("told(101)", x.told(101), -2);
        Check.pad(x, "cccccccccccccccccccccccc");
        due("way() of 24 corners", x.way(), 24);
        due("told(123)", x.told(123), 'c');
        Check.pad(x, "ccccccccccccccccccccccccc");
        due("way() of 25 corners", x.way(), -5);
    }

    private static void tread() {
        CHECK.promise("10 tread");
        TandemRide x = new TandemRide();
        due("tread(0, 4, 4) of nobody", x.tread(0, 4, 4), -1);
        x.rider(0, 7, 6, 1, 0);
        due("tread(0, 4, 6)", x.tread(0, 4, 6), 28);
        due("tread(0, 3, 4)", x.tread(0, 3, 4), 16);
        due("tread(0, 3, 10)", x.tread(0, 3, 10), 12);
        due("tread(0, 1, 7)", x.tread(0, 1, 7), 6);
        due("tread(0, 0, 10)", x.tread(0, 0, 10), 0);
        x.rider(3, 20, 4, 1, 0);
        due("tread(3, 4, 10)", x.tread(3, 4, 10), 32);
        due("tread(3, 4, 4)", x.tread(3, 4, 4), 80);
        due("tread(1, 9, 9)", x.tread(1, 9, 9), -1);
        due("tread(4, 1, 4)", x.tread(4, 1, 4), -1);
        due("tread(-1, 1, 4)", x.tread(-1, 1, 4), -1);
        due("tread(0, -1, 4)", x.tread(0, -1, 4), -2);
        due("tread(0, 5, 4)", x.tread(0, 5, 4), -2);
        due("tread(0, 4, 3)", x.tread(0, 4, 3), -2);
        due("tread(0, 4, 11)", x.tread(0, 4, 11), -2);
    }
}
