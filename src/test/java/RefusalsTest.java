import java.util.List;
import java.util.function.Supplier;
import java.util.function.ToLongFunction;

/**
 * Which refusal is told where two or more fit, for every call that has two; that behind each of them nothing has
 * changed; and that calls which only ask change nothing either.
 */
public final class RefusalsTest {
    private static final int UNKNOWN = -1, OUTSIDE = -2, STATE = -3, FULL = -4, NO = -5;
    private static final long GONE = -1000000000000000000L;
    private static final Check CHECK = new Check();

    public static void main(String[] args) {
        unknownAheadOfOutside();
        bothAreOne();
        outsideAheadOfFull();
        noPlace();
        stateAheadOfAll();
        notInNeedOfSeats();
        outsideAheadOfNo();
        aFault();
        aStretchThatCanNotBe();
        homeOfManyCorners();
        outsideAheadOfState();
        asking();
        CHECK.end("RefusalsTest");
    }

    private static void refused(String call, Supplier<TandemRide> maker, ToLongFunction<TandemRide> ask, long refusal) {
        CHECK.refused(call, maker, ask, refusal);
    }

    // ---- objects to ask

    private static TandemRide nobody() {
        TandemRide x = new TandemRide();
        Check.say(x, "11d");
        return x;
    }

    private static TandemRide withoutFront() {
        TandemRide x = Made.rich();
        x.leave(2);
        return x;
    }

    private static TandemRide withoutBack() {
        TandemRide x = Made.rich();
        x.leave(1);
        return x;
    }

    private static TandemRide withSixTimes() {
        TandemRide x = Made.rich();
        while (x.told(8) < 6) x.time(1, 0, x.told(8) % 5, 3);
        return x;
    }

    private static TandemRide withFullPad(String sign) {
        TandemRide x = Made.rich();
        Check.pad(x, sign.repeat(110));
        return x;
    }

    private static TandemRide withPad(String signs) {
        TandemRide x = Made.rich();
        Check.pad(x, signs);
        return x;
    }

    private static TandemRide onTheWay(String way, String plan) {
        TandemRide x = Made.two(way);
        Check.say(x, plan);
        return x;
    }

    // ---- what is told first

    private static void unknownAheadOfOutside() {
        CHECK.promise("2, 10, 17, 27, 29 UNKNOWN ahead of OUTSIDE");
        int[] noNumbers = {-1, 4, Integer.MIN_VALUE, Integer.MAX_VALUE};
        for (int r : noNumbers) {
            refused("rider(" + r + ", 0, ..)", Made::rich, x -> x.rider(r, 0, 4, 1, 0), UNKNOWN);
            refused("rider(" + r + ", 1, 3, ..)", Made::rich, x -> x.rider(r, 1, 3, 1, 0), UNKNOWN);
            refused("rider(" + r + ", 1, 4, 0, 0)", Made::rich, x -> x.rider(r, 1, 4, 0, 0), UNKNOWN);
            refused("rider(" + r + ", 1, 4, 1, 51)", Made::rich, x -> x.rider(r, 1, 4, 1, 51), UNKNOWN);
            refused("tread(" + r + ", 5, 4)", Made::rich, x -> x.tread(r, 5, 4), UNKNOWN);
            refused("tread(" + r + ", 1, 3)", Made::rich, x -> x.tread(r, 1, 3), UNKNOWN);
            refused("single(" + r + ", 5)", Made::rich, x -> x.single(r, 5), UNKNOWN);
            refused("time(" + r + ", 5, 5, 0)", Made::rich, x -> x.time(r, 5, 5, 0), UNKNOWN);
            refused("strong(" + r + ", 3)", Made::rich, x -> x.strong(r, 3), UNKNOWN);
        }
        CHECK.promise("10, 17, 27, 29 UNKNOWN is also who is not there, ahead of OUTSIDE");
        refused("tread(2, 1, 4)", RefusalsTest::withoutFront, x -> x.tread(2, 1, 4), UNKNOWN);
        refused("tread(2, 5, 11)", RefusalsTest::withoutFront, x -> x.tread(2, 5, 11), UNKNOWN);
        refused("single(2, 1)", RefusalsTest::withoutFront, x -> x.single(2, 1), UNKNOWN);
        refused("single(2, -1)", RefusalsTest::withoutFront, x -> x.single(2, -1), UNKNOWN);
        refused("time(2, 0, 0, 1)", RefusalsTest::withoutFront, x -> x.time(2, 0, 0, 1), UNKNOWN);
        refused("time(2, 5, 5, 301)", RefusalsTest::withoutFront, x -> x.time(2, 5, 5, 301), UNKNOWN);
        refused("strong(2, 0)", RefusalsTest::withoutFront, x -> x.strong(2, 0), UNKNOWN);
        refused("strong(2, -1)", RefusalsTest::withoutFront, x -> x.strong(2, -1), UNKNOWN);
        CHECK.promise("3 UNKNOWN: it was not there");
        refused("leave(2)", RefusalsTest::withoutFront, x -> x.leave(2), UNKNOWN);
        for (int r = 0; r < 4; r++) {
            int rider = r;
            refused("leave(" + r + ") of nobody", RefusalsTest::nobody, x -> x.leave(rider), UNKNOWN);
        }
    }

    private static void bothAreOne() {
        CHECK.promise("4 UNKNOWN: both are one, or one is not there");
        for (int r = 0; r < 4; r++) {
            int rider = r;
            refused("seat(" + r + ", " + r + ")", Made::rich, x -> x.seat(rider, rider), UNKNOWN);
            refused("seat(" + r + ", -1)", Made::rich, x -> x.seat(rider, -1), UNKNOWN);
            refused("seat(4, " + r + ")", Made::rich, x -> x.seat(4, rider), UNKNOWN);
        }
        refused("seat(0, 1) without 1", RefusalsTest::withoutBack, x -> x.seat(0, 1), UNKNOWN);
        refused("seat(1, 0) without 1", RefusalsTest::withoutBack, x -> x.seat(1, 0), UNKNOWN);
        refused("seat(1, 1) without 1", RefusalsTest::withoutBack, x -> x.seat(1, 1), UNKNOWN);
        refused("seat(0, 1) of nobody", RefusalsTest::nobody, x -> x.seat(0, 1), UNKNOWN);
    }

    private static void outsideAheadOfFull() {
        CHECK.promise("6 OUTSIDE ahead of FULL");
        int[] noSigns = {32, 127, 0, -1, 256 + 33, Integer.MIN_VALUE, Integer.MAX_VALUE};
        for (int sign : noSigns) refused("say(" + sign + ")", () -> withFullPad("c"), x -> x.say(sign), OUTSIDE);
        CHECK.promise("6 FULL");
        int[] signs = {33, 126, 'c', 'R', '0'};
        for (int sign : signs) refused("say(" + sign + ")", () -> withFullPad("c"), x -> x.say(sign), FULL);
        CHECK.promise("27 UNKNOWN ahead of OUTSIDE ahead of FULL");
        refused("time(4, 5, 0, 1)", RefusalsTest::withSixTimes, x -> x.time(4, 5, 0, 1), UNKNOWN);
        refused("time(4, 0, 0, 1)", RefusalsTest::withSixTimes, x -> x.time(4, 0, 0, 1), UNKNOWN);
        refused("time(0, 5, 0, 1)", RefusalsTest::withSixTimes, x -> x.time(0, 5, 0, 1), OUTSIDE);
        refused("time(0, -1, 0, 1)", RefusalsTest::withSixTimes, x -> x.time(0, -1, 0, 1), OUTSIDE);
        refused("time(0, 0, 5, 1)", RefusalsTest::withSixTimes, x -> x.time(0, 0, 5, 1), OUTSIDE);
        refused("time(0, 0, -1, 1)", RefusalsTest::withSixTimes, x -> x.time(0, 0, -1, 1), OUTSIDE);
        refused("time(0, 0, 0, 0)", RefusalsTest::withSixTimes, x -> x.time(0, 0, 0, 0), OUTSIDE);
        refused("time(0, 0, 0, 301)", RefusalsTest::withSixTimes, x -> x.time(0, 0, 0, 301), OUTSIDE);
        for (int r = 0; r < 4; r++) {
            int rider = r;
            refused("time(" + r + ", 0, 0, 1)", RefusalsTest::withSixTimes, x -> x.time(rider, 0, 0, 1), FULL);
        }
        CHECK.promise("21 OUTSIDE ahead of FULL");
        Supplier<TandemRide> thirteen = () -> onTheWay("c~c~c~c~c~c~c", "");
        refused("calls(21, 0)", thirteen, x -> x.calls(21, 0), OUTSIDE);
        refused("calls(-1, 1)", thirteen, x -> x.calls(-1, 1), OUTSIDE);
        refused("calls(0, 2)", thirteen, x -> x.calls(0, 2), OUTSIDE);
        refused("calls(20, -1)", thirteen, x -> x.calls(20, -1), OUTSIDE);
        refused("calls(0, 0)", thirteen, x -> x.calls(0, 0), FULL);
        refused("calls(20, 1)", thirteen, x -> x.calls(20, 1), FULL);
    }

    private static void noPlace() {
        CHECK.promise("5 OUTSIDE: which, and v by which");
        int[][] outside = {{0, 4}, {0, 21}, {0, 0}, {0, 50}, {1, -1}, {1, 100}, {2, -1}, {2, 51}, {2, 99}, {-1, 10}, {3, 10},
            {3, 0}, {-1, 4}};
        for (int[] v : outside) refused("set(" + v[0] + ", " + v[1] + ")", Made::rich, x -> x.set(v[0], v[1]), OUTSIDE);
        CHECK.promise("9 NO: there is a FAULT (0)");
        String[] pads = {"", "x", "uUx", "12dR21e11a", "c".repeat(25), "c".repeat(110), "c".repeat(24) + "x"};
        for (String pad : pads) refused("way() of " + pad, () -> withPad(pad), x -> x.way(), NO);
    }

    /** All calls that need FRONT and BACK: whatever else is wrong, STATE is told. */
    private static void stateAheadOfAll() {
        CHECK.promise("11 to 16, 18 to 20, 22, 24 to 26, 30 STATE ahead of all else");
        needsSeats("judge", x -> x.judge(0), x -> x.judge(2), STATE);
        needsSeats("ridden", x -> x.ridden(0, 0), x -> x.ridden(3, 0), STATE);
        needsSeats("ridden", x -> x.ridden(-1, 3), x -> x.ridden(0, 4), STATE);
        needsSeats("share", x -> x.share(0), x -> x.share(2), GONE + STATE);
        needsSeats("unseen", x -> x.unseen(), x -> x.unseen(), STATE);
        needsSeats("soonest", x -> x.soonest(0), x -> x.soonest(-1), STATE);
        needsSeats("oneBeat", x -> x.oneBeat(1, 1, 0), x -> x.oneBeat(5, 1, 0), STATE);
        needsSeats("oneBeat", x -> x.oneBeat(0, 0, 3), x -> x.oneBeat(1, 1, 4), STATE);
        needsSeats("sorts", x -> x.sorts(1), x -> x.sorts(5), STATE);
        needsSeats("uneven", x -> x.uneven(1, 1, 0), x -> x.uneven(1, 1, 12), STATE);
        needsSeats("evenest", x -> x.evenest(1, 1), x -> x.evenest(-1, 1), STATE);
        needsSeats("worth", x -> x.worth(), x -> x.worth(), STATE);
        needsSeats("quarrel", x -> x.quarrel(1), x -> x.quarrel(100), STATE);
        needsSeats("home", x -> x.home(1, 1, 0), x -> x.home(11, 1, 0), GONE + STATE);
        needsSeats("home", x -> x.home(0, 0, 1), x -> x.home(1, 10000, 2), GONE + STATE);
        needsSeats("mean", x -> x.mean(1, 0), x -> x.mean(-1, 0), GONE + STATE);
        needsSeats("year", x -> x.year(1, 1, 0), x -> x.year(1, 0, 0), STATE);
    }

    private static void needsSeats(String call, ToLongFunction<TandemRide> right, ToLongFunction<TandemRide> wrong,
                                   long refusal) {
        for (ToLongFunction<TandemRide> ask : List.of(right, wrong)) {
            refused(call + " of nobody", RefusalsTest::nobody, ask, refusal);
            refused(call + " of nobody, with an empty PAD", TandemRide::new, ask, refusal);
            refused(call + " without FRONT", RefusalsTest::withoutFront, ask, refusal);
            refused(call + " without BACK", RefusalsTest::withoutBack, ask, refusal);
            refused(call + " of two who are not seated", RefusalsTest::twoNotSeated, ask, refusal);
        }
        CHECK.due(call + " of two who are seated", !Check.isRefusal(right.applyAsLong(withPad("12d21e11a"))));
    }

    /** RIDERS 2 and 3 are there, but 0 and 1 are FRONT and BACK; 13 corners, too. */
    private static TandemRide twoNotSeated() {
        TandemRide x = new TandemRide();
        x.rider(2, 5, 5, 9, 30);
        x.rider(3, 10, 10, 9, 50);
        Check.takeWay(x, "c".repeat(13));
        return x;
    }

    private static void notInNeedOfSeats() {
        CHECK.promise("4 who is seated is there again when a RIDER of the number comes");
        TandemRide x = withoutFront();
        CHECK.due("told(2)", x.told(2), 2);
        x.rider(2, 5, 5, 5, 5);
        CHECK.due("judge(0)", x.judge(0), TandemRide.NONE);
        CHECK.promise("17, 21, 23, 29 calls that need no FRONT, no BACK");
        x = twoNotSeated();
        Check.takeWay(x, "c");
        CHECK.due("single(2, 4)", x.single(2, 4), 30 / 21 + 1);
        CHECK.due("calls(2, 0)", x.calls(2, 0), 1);
        CHECK.due("bestPair(0)", x.bestPair(0), 23);
        CHECK.due("tread(3, 1, 10)", x.tread(3, 1, 10), 10);
        CHECK.due("strong(3, 0)", x.strong(3, 0), 20);
        CHECK.due("fault(1)", x.fault(1), 0);
    }

    /** Where a number is outside, NO is not told, though it fits: the PAD is empty. */
    private static void outsideAheadOfNo() {
        CHECK.promise("11 to 13, 24 to 26 OUTSIDE ahead of NO");
        Supplier<TandemRide> empty = () -> withPad("");
        refused("judge(2)", empty, x -> x.judge(2), OUTSIDE);
        refused("judge(-1)", empty, x -> x.judge(-1), OUTSIDE);
        refused("ridden(3, 0)", empty, x -> x.ridden(3, 0), OUTSIDE);
        refused("ridden(-2, 0)", empty, x -> x.ridden(-2, 0), OUTSIDE);
        refused("ridden(0, 4)", empty, x -> x.ridden(0, 4), OUTSIDE);
        refused("ridden(0, -1)", empty, x -> x.ridden(0, -1), OUTSIDE);
        refused("share(2)", empty, x -> x.share(2), GONE + OUTSIDE);
        refused("share(-1)", empty, x -> x.share(-1), GONE + OUTSIDE);
        refused("quarrel(100)", empty, x -> x.quarrel(100), OUTSIDE);
        refused("quarrel(-1)", empty, x -> x.quarrel(-1), OUTSIDE);
        refused("home(11, 0, 0)", empty, x -> x.home(11, 0, 0), GONE + OUTSIDE);
        refused("home(0, 10000, 0)", empty, x -> x.home(0, 10000, 0), GONE + OUTSIDE);
        refused("home(0, -1, 0)", empty, x -> x.home(0, -1, 0), GONE + OUTSIDE);
        refused("home(0, 0, 2)", empty, x -> x.home(0, 0, 2), GONE + OUTSIDE);
        refused("mean(-1, 0)", empty, x -> x.mean(-1, 0), GONE + OUTSIDE);
        refused("mean(0, 2)", empty, x -> x.mean(0, 2), GONE + OUTSIDE);
    }

    private static void rideIsRefused(Supplier<TandemRide> maker) {
        for (int m = -1; m < 3; m++) {
            int stretch = m;
            refused("ridden(" + m + ", 0)", maker, x -> x.ridden(stretch, 0), NO);
            refused("ridden(" + m + ", 3)", maker, x -> x.ridden(stretch, 3), NO);
        }
        refused("share(0)", maker, x -> x.share(0), GONE + NO);
        refused("share(1)", maker, x -> x.share(1), GONE + NO);
        refused("unseen()", maker, x -> x.unseen(), NO);
        refused("quarrel(0)", maker, x -> x.quarrel(0), NO);
        refused("quarrel(9)", maker, x -> x.quarrel(9), NO);
        refused("home(3, 9999, 0)", maker, x -> x.home(3, 9999, 0), GONE + NO);
        refused("home(3, 0, 1)", maker, x -> x.home(3, 0, 1), GONE + NO);
        refused("mean(3, 0)", maker, x -> x.mean(3, 0), GONE + NO);
        refused("mean(0, 1)", maker, x -> x.mean(0, 1), GONE + NO);
    }

    private static void aFault() {
        CHECK.promise("11 to 14, 22, 24 to 26 NO: there is a FAULT (1)");
        String[] pads = {"", "12dR21e", "12d21e11", "12d21e11aR", "12d21e11a1", "12d21e15a", "12d21e11h", "12d21e11`",
            "RR12d21e11a"};
        for (String pad : pads) {
            Supplier<TandemRide> maker = () -> withPad(pad);
            rideIsRefused(maker);
            refused("judge(0) of " + pad, maker, x -> x.judge(0), NO);
            refused("judge(1) of " + pad, maker, x -> x.judge(1), NO);
            refused("worth() of " + pad, maker, x -> x.worth(), NO);
        }
        CHECK.promise("22 NO: some R");
        String[] rests = {"R12d21e11a", "12dR21e11a", "12d21eR11a", "R12dR21eR11a", "44a44aR44a"};
        for (String pad : rests) refused("worth() of " + pad, () -> withPad(pad), x -> x.worth(), NO);
    }

    private static void aStretchThatCanNotBe() {
        CHECK.promise("12 to 14, 24 to 26 NO: a stretch that can not be, the first, the last, by wind or by heat");
        String[][] rides = {{"...", "40a00a00a"}, {"...", "00a00a40a"}, {"...", "04a00a00a"}, {"...", "00a00a04a"},
            {"dDd", "00a00a00a"}, {"dd.", "40a00a00a"}, {"ddd", "00a00a00a"}};
        for (String[] ride : rides) {
            Supplier<TandemRide> maker = () -> {
                TandemRide x = onTheWay(ride[0], ride[1]);
                x.rider(0, 5, 5, 1, 30);
                x.rider(1, 10, 10, 1, 50);
                x.set(0, 5);
                return x;
            };
            rideIsRefused(maker);
            CHECK.due("judge(0) of " + ride[1], maker.get().judge(0) >= 0);
        }
    }

    private static void homeOfManyCorners() {
        CHECK.promise("25 OUTSIDE ahead of NO ahead of FULL");
        String corners = "c".repeat(13);
        Supplier<TandemRide> ridden = () -> onTheWay(corners, "11b".repeat(13));
        Supplier<TandemRide> faulty = () -> onTheWay(corners, "11b".repeat(12));
        Supplier<TandemRide> spent = () -> onTheWay(corners, "44b".repeat(13));
        refused("home(3, 0, 2) of 13 corners", ridden, x -> x.home(3, 0, 2), GONE + OUTSIDE);
        refused("home(11, 0, 0) of 13 corners", ridden, x -> x.home(11, 0, 0), GONE + OUTSIDE);
        refused("home(3, -1, 0) of 13 corners", ridden, x -> x.home(3, -1, 0), GONE + OUTSIDE);
        refused("home(3, 99, 0) of 13 corners", faulty, x -> x.home(3, 99, 0), GONE + NO);
        refused("home(3, 99, 0) of 13 corners", spent, x -> x.home(3, 99, 0), GONE + NO);
        refused("home(3, 99, 0) of 13 corners", ridden, x -> x.home(3, 99, 0), GONE + FULL);
        refused("home(0, 0, 1) of 13 corners", ridden, x -> x.home(0, 0, 1), GONE + FULL);
        refused("home(3, 99, 0) of 24 corners", () -> onTheWay("c".repeat(24), "11b".repeat(24)),
            x -> x.home(3, 99, 0), GONE + FULL);
    }

    private static void outsideAheadOfState() {
        CHECK.promise("23 OUTSIDE, though there are no two");
        refused("bestPair(2)", RefusalsTest::nobody, x -> x.bestPair(2), OUTSIDE);
        refused("bestPair(-1)", RefusalsTest::nobody, x -> x.bestPair(-1), OUTSIDE);
        CHECK.promise("32 OUTSIDE ahead of STATE");
        refused("restore(2)", TandemRide::new, x -> x.restore(2), OUTSIDE);
        refused("restore(-1)", TandemRide::new, x -> x.restore(-1), OUTSIDE);
        refused("restore(0)", TandemRide::new, x -> x.restore(0), STATE);
        refused("restore(1)", TandemRide::new, x -> x.restore(1), STATE);
        CHECK.promise("32 STATE: it was not kept, the other was");
        refused("restore(1)", Made::rich, x -> x.restore(1), STATE);
        refused("restore(0)", RefusalsTest::withImageOne, x -> x.restore(0), STATE);
    }

    private static TandemRide withImageOne() {
        TandemRide x = nobody();
        x.image(1);
        return x;
    }

    private static void asking() {
        CHECK.promise("a call that only asks changes nothing");
        for (Supplier<TandemRide> maker : List.<Supplier<TandemRide>>of(Made::rich, Made::richWithWay)) {
            CHECK.onlyAsks("fault(0)", maker, x -> x.fault(0));
            CHECK.onlyAsks("fault(1)", maker, x -> x.fault(1));
            CHECK.onlyAsks("tread(0, 1, 4)", maker, x -> x.tread(0, 1, 4));
            CHECK.onlyAsks("soonest(0)", maker, x -> x.soonest(0));
            CHECK.onlyAsks("soonest(1)", maker, x -> x.soonest(1));
            CHECK.onlyAsks("oneBeat(1, 1, 0)", maker, x -> x.oneBeat(1, 1, 0));
            CHECK.onlyAsks("single(0, 1)", maker, x -> x.single(0, 1));
            CHECK.onlyAsks("sorts(1)", maker, x -> x.sorts(1));
            CHECK.onlyAsks("uneven(1, 1, 1)", maker, x -> x.uneven(1, 1, 1));
            CHECK.onlyAsks("evenest(1, 1)", maker, x -> x.evenest(1, 1));
            CHECK.onlyAsks("calls(1, 1)", maker, x -> x.calls(1, 1));
            CHECK.onlyAsks("bestPair(0)", maker, x -> x.bestPair(0));
            CHECK.onlyAsks("strong(0, 1)", maker, x -> x.strong(0, 1));
            CHECK.onlyAsks("year(1, 1, 1)", maker, x -> x.year(1, 1, 1));
            CHECK.onlyAsks("told(20)", maker, x -> x.told(20));
        }
        CHECK.onlyAsks("judge(0)", Made::rich, x -> x.judge(0));
        CHECK.onlyAsks("ridden(-1, 0)", Made::rich, x -> x.ridden(-1, 0));
        CHECK.onlyAsks("share(0)", Made::rich, x -> x.share(0));
        CHECK.onlyAsks("unseen()", Made::rich, x -> x.unseen());
        CHECK.onlyAsks("worth()", () -> withPad("12d21e11a"), x -> x.worth());
        CHECK.onlyAsks("worth() of what one rest mends", () -> onTheWay("DDD", "00a00a00a"), x -> x.worth());
        CHECK.onlyAsks("quarrel(9)", Made::rich, x -> x.quarrel(9));
        CHECK.onlyAsks("home(3, 9, 0)", Made::rich, x -> x.home(3, 9, 0));
        CHECK.onlyAsks("mean(3, 0)", Made::rich, x -> x.mean(3, 0));
    }
}
