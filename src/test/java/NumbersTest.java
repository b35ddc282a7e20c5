/**
 * The bounds of every number of every call: the last that is taken and the first that is refused on each side, and
 * some far off; and that nothing has changed behind those that are refused.
 */
public final class NumbersTest {
    private static final int UNKNOWN = TandemRide.UNKNOWN, OUTSIDE = TandemRide.OUTSIDE;
    private static final long GONE_OUTSIDE = TandemRide.GONE + OUTSIDE;
    private static final Check CHECK = new Check();

    /** A call with one of its numbers left open. */
    private interface Numbered {
        long on(TandemRide x, int v);
    }

    public static void main(String[] args) {
        ofRiders();
        ofSettings();
        ofThePad();
        ofRides();
        ofCranks();
        ofQuarrels();
        ofTimes();
        ofImages();
        CHECK.end("NumbersTest");
    }

    /** From least to most the number is taken, all else is refused. */
    private static void bounds(String call, int least, int most, long refusal, Numbered ask) {
        for (int v = least; v <= most; v += v < least + 30 || v >= most - 30 ? 1 : 29) {
            CHECK.due(call + " by " + v + " is taken", !Check.isRefusal(ask.on(Made.rich(), v)));
        }
        int[] refused = {least - 1, least - 2, most + 1, most + 2, least - 256, most + 256, most - 65536, least + 65536,
            Integer.MIN_VALUE, Integer.MIN_VALUE + 1, Integer.MAX_VALUE, Integer.MAX_VALUE - 1};
        for (int v : refused) CHECK.refused(call + " by " + v, Made::rich, x -> ask.on(x, v), refusal);
    }

    private static void ofRiders() {
        CHECK.promise("2 a RIDER is 0 to 3");
        bounds("rider(v, ..)", 0, 3, UNKNOWN, (x, v) -> x.rider(v, 1, 4, 1, 0));
        CHECK.promise("2 STRENGTH is 1 to 20");
        bounds("rider(0, v, ..)", 1, 20, OUTSIDE, (x, v) -> x.rider(0, v, 4, 1, 0));
        CHECK.promise("2 LIKES is 4 to 10");
        bounds("rider(1, 1, v, ..)", 4, 10, OUTSIDE, (x, v) -> x.rider(1, 1, v, 1, 0));
        CHECK.promise("2 WIND is 1 to 9");
        bounds("rider(2, 1, 4, v, 0)", 1, 9, OUTSIDE, (x, v) -> x.rider(2, 1, 4, v, 0));
        CHECK.promise("2 THINKS is 0 to 50");
        bounds("rider(3, 1, 4, 1, v)", 0, 50, OUTSIDE, (x, v) -> x.rider(3, 1, 4, 1, v));
        CHECK.promise("3 a RIDER who leaves is 0 to 3");
        bounds("leave(v)", 0, 3, UNKNOWN, (x, v) -> x.leave(v));
        CHECK.promise("4 FRONT is 0 to 3");
        bounds("seat(v, 3)", 0, 2, UNKNOWN, (x, v) -> x.seat(v, 3));
        bounds("seat(v, 0)", 1, 3, UNKNOWN, (x, v) -> x.seat(v, 0));
        CHECK.promise("4 BACK is 0 to 3");
        bounds("seat(3, v)", 0, 2, UNKNOWN, (x, v) -> x.seat(3, v));
        bounds("seat(0, v)", 1, 3, UNKNOWN, (x, v) -> x.seat(0, v));
        CHECK.promise("10 tread");
        bounds("tread(v, 1, 4)", 0, 3, UNKNOWN, (x, v) -> x.tread(v, 1, 4));
        bounds("tread(0, v, 4)", 0, 4, OUTSIDE, (x, v) -> x.tread(0, v, 4));
        bounds("tread(0, 1, v)", 4, 10, OUTSIDE, (x, v) -> x.tread(0, 1, v));
    }

    private static void ofSettings() {
        CHECK.promise("5 which is 0 to 2");
        bounds("set(v, 5)", 0, 2, OUTSIDE, (x, v) -> x.set(v, 5));
        CHECK.promise("5 HOTTEST is 5 to 20");
        bounds("set(0, v)", 5, 20, OUTSIDE, (x, v) -> x.set(0, v));
        CHECK.promise("5 PAUSE is 0 to 99");
        bounds("set(1, v)", 0, 99, OUTSIDE, (x, v) -> x.set(1, v));
        CHECK.promise("5 CALM is 0 to 50");
        bounds("set(2, v)", 0, 50, OUTSIDE, (x, v) -> x.set(2, v));
    }

    private static void ofThePad() {
        CHECK.promise("6 a sign's code is 33 to 126");
        bounds("say(v)", 33, 126, OUTSIDE, (x, v) -> x.say(v));
        CHECK.promise("8 how is 0 or 1");
        bounds("fault(v)", 0, 1, OUTSIDE, (x, v) -> x.fault(v));
    }

    private static void ofRides() {
        CHECK.promise("11 judge");
        bounds("judge(v)", 0, 1, OUTSIDE, (x, v) -> x.judge(v));
        CHECK.promise("12 m is -1 to as many as stretches less 1");
        bounds("ridden(v, 0)", -1, 2, OUTSIDE, (x, v) -> x.ridden(v, 0));
        bounds("ridden(0, v)", 0, 3, OUTSIDE, (x, v) -> x.ridden(0, v));
        CHECK.promise("13 share");
        bounds("share(v)", 0, 1, GONE_OUTSIDE, (x, v) -> x.share(v));
        CHECK.promise("15 soonest");
        bounds("soonest(v)", 0, 1, OUTSIDE, (x, v) -> x.soonest(v));
        CHECK.promise("16 EFFORTS are 0 to 4");
        bounds("oneBeat(v, 1, 0)", 0, 4, OUTSIDE, (x, v) -> x.oneBeat(v, 1, 0));
        bounds("oneBeat(1, v, 0)", 0, 4, OUTSIDE, (x, v) -> x.oneBeat(1, v, 0));
        bounds("oneBeat(1, 1, v)", 0, 3, OUTSIDE, (x, v) -> x.oneBeat(1, 1, v));
    }

    private static void ofCranks() {
        CHECK.promise("17 single");
        bounds("single(v, 1)", 0, 3, UNKNOWN, (x, v) -> x.single(v, 1));
        bounds("single(0, v)", 0, 4, OUTSIDE, (x, v) -> x.single(0, v));
        CHECK.promise("18 sorts");
        bounds("sorts(v)", 0, 4, OUTSIDE, (x, v) -> x.sorts(v));
        CHECK.promise("19 EFFORTS, p 0 to 11");
        bounds("uneven(v, 1, 0)", 0, 4, OUTSIDE, (x, v) -> x.uneven(v, 1, 0));
        bounds("uneven(1, v, 0)", 0, 4, OUTSIDE, (x, v) -> x.uneven(1, v, 0));
        bounds("uneven(1, 1, v)", 0, 11, OUTSIDE, (x, v) -> x.uneven(1, 1, v));
        CHECK.promise("20 evenest");
        bounds("evenest(v, 1)", 0, 4, OUTSIDE, (x, v) -> x.evenest(v, 1));
        bounds("evenest(1, v)", 0, 4, OUTSIDE, (x, v) -> x.evenest(1, v));
        CHECK.promise("21 K is 0 to 20");
        bounds("calls(v, 0)", 0, 20, OUTSIDE, (x, v) -> x.calls(v, 0));
        bounds("calls(v, 1)", 0, 20, OUTSIDE, (x, v) -> x.calls(v, 1));
        bounds("calls(1, v)", 0, 1, OUTSIDE, (x, v) -> x.calls(1, v));
        CHECK.promise("23 bestPair");
        bounds("bestPair(v)", 0, 1, OUTSIDE, (x, v) -> x.bestPair(v));
    }

    private static void ofQuarrels() {
        CHECK.promise("24 n is 0 to 99");
        bounds("quarrel(v)", 0, 99, OUTSIDE, (x, v) -> x.quarrel(v));
        CHECK.promise("25 t is 0 to 10");
        bounds("home(v, 99, 0)", 0, 10, GONE_OUTSIDE, (x, v) -> x.home(v, 99, 0));
        CHECK.promise("25 SECONDS are 0 to 9999");
        bounds("home(3, v, 1)", 0, 9999, GONE_OUTSIDE, (x, v) -> x.home(3, v, 1));
        bounds("home(3, 99, v)", 0, 1, GONE_OUTSIDE, (x, v) -> x.home(3, 99, v));
        CHECK.promise("26 t is 0 to 10");
        bounds("mean(v, 0)", 0, 10, GONE_OUTSIDE, (x, v) -> x.mean(v, 0));
        bounds("mean(3, v)", 0, 1, GONE_OUTSIDE, (x, v) -> x.mean(3, v));
        CHECK.promise("30 a seed is 0 to 9999");
        bounds("year(v, 2, 0)", 0, 9999, OUTSIDE, (x, v) -> x.year(v, 2, 0));
        CHECK.promise("30 n is 1 to 99");
        bounds("year(1, v, 0)", 1, 99, OUTSIDE, (x, v) -> x.year(1, v, 0));
        bounds("year(1, 2, v)", 0, 2, OUTSIDE, (x, v) -> x.year(1, 2, v));
    }

    private static void ofTimes() {
        CHECK.promise("27 time");
        bounds("time(v, 0, 0, 1)", 0, 3, UNKNOWN, (x, v) -> x.time(v, 0, 0, 1));
        CHECK.promise("27 the sort is 0 to 4");
        bounds("time(0, v, 0, 1)", 0, 4, OUTSIDE, (x, v) -> x.time(0, v, 0, 1));
        CHECK.promise("27 the EFFORT is 0 to 4");
        bounds("time(0, 0, v, 1)", 0, 4, OUTSIDE, (x, v) -> x.time(0, 0, v, 1));
        CHECK.promise("27 v is 1 to 300");
        bounds("time(0, 0, 0, v)", 1, 300, OUTSIDE, (x, v) -> x.time(0, 0, 0, v));
        CHECK.promise("29 strong");
        bounds("strong(v, 0)", 0, 3, UNKNOWN, (x, v) -> x.strong(v, 0));
        bounds("strong(0, v)", 0, 2, OUTSIDE, (x, v) -> x.strong(0, v));
    }

    private static void ofImages() {
        CHECK.promise("31 an IMAGE is 0 or 1");
        bounds("image(v)", 0, 1, OUTSIDE, (x, v) -> x.image(v));
        CHECK.promise("32 an IMAGE is 0 or 1");
        bounds("restore(v)", 0, 1, OUTSIDE, (x, v) -> {
            if (v == 1) x.image(1);
            return x.restore(v);
        });
        CHECK.promise("33 told");
        for (int v = 0; v <= 8; v++) CHECK.due("told(" + v + ")", !Check.isRefusal(Made.rich().told(v)));
        for (int r = 0; r < 4; r++) {
            int ten = 10 * (1 + r);
            for (int v = ten; v < ten + 4; v++) CHECK.due("told(" + v + ")", !Check.isRefusal(Made.rich().told(v)));
            int[] beside = {ten - 1, ten + 4};
            for (int v : beside) CHECK.refused("told(" + v + ")", Made::rich, x -> x.told(v), OUTSIDE);
        }
        for (int v = 100; v <= 102; v++) CHECK.due("told(" + v + ")", !Check.isRefusal(Made.rich().told(v)));
        int[] none = {-1, -2, 50, 51, 53, 99, 103, 104, 110, 124, 256, 356, 65536, 65636, Integer.MIN_VALUE,
            Integer.MIN_VALUE + 100, Integer.MAX_VALUE};
        for (int v : none) CHECK.refused("told(" + v + ")", Made::rich, x -> x.told(v), OUTSIDE);
    }
}
