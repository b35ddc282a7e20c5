/**
 * Promises 24 to 33 at their edges: beliefs of 100 and above, quarrels of 0 and 999, no slip and nothing but slips,
 * no corner, 12 and 13, six times and a seventh, strengths 1 and 20, years of 1 and 99 days, images over images.
 */
public final class QuarrelEdgesTest {
    private static final int OUTSIDE = -2, STATE = -3, FULL = -4, NONE = -6;
    private static final long GONE = -1000000000000000000L;
    private static final Check CHECK = new Check();

    public static void main(String[] args) {
        daysAndCalm();
        mostQuarrel();
        hundredthsAreCut();
        hundredAtMost();
        noSlipAndAllSlips();
        secondsAtMost();
        twelveCorners();
        noCorner();
        means();
        sixTimes();
        strongest();
        noStrengthFits();
        strongOfEachSort();
        yearsOfOneDay();
        years();
        yearWithoutALook();
        imagesStandAlone();
        thePadIsNotKept();
        imagesOfNobody();
        allIsTold();
        CHECK.end("QuarrelEdgesTest");
    }

    private static void due(String call, long got, long want) {
        CHECK.due(call, got, want);
    }

    // ---- quarrels

    /** Two of strength 10 who tread all the way as told. */
    private static TandemRide believers(int thinksFront, int thinksBack, String plan, int calm) {
        TandemRide x = new TandemRide();
        x.rider(0, 10, 7, 9, thinksFront);
        x.rider(1, 10, 7, 9, thinksBack);
        x.set(2, calm);
        Check.say(x, plan);
        return x;
    }

    private static void days(TandemRide x, int... daysAndQuarrels) {
        for (int i = 0; i < daysAndQuarrels.length; i += 2) {
            due("quarrel(" + daysAndQuarrels[i] + ")", x.quarrel(daysAndQuarrels[i]), daysAndQuarrels[i + 1]);
        }
    }

    private static void daysAndCalm() {
        CHECK.promise("24 QUARREL is 0 at the start");
        days(believers(50, 50, "11d", 0), 0, 0);
        days(believers(0, 0, "11d", 50), 0, 0);
        CHECK.promise("24 what both are above 100: nothing at 100, 1 at 101");
        days(believers(0, 0, "11d", 0), 1, 0, 99, 0);
        days(believers(1, 0, "11d", 0), 1, 1, 2, 2, 99, 99);
        days(believers(0, 1, "11d", 0), 1, 1, 99, 99);
        CHECK.promise("24 less CALM, 0 at least");
        days(believers(1, 0, "11d", 1), 1, 0, 99, 0);
        days(believers(1, 0, "11d", 2), 1, 0, 99, 0);
        days(believers(0, 0, "11d", 50), 1, 0, 99, 0);
        days(believers(25, 25, "11d", 49), 1, 1, 99, 99);
        days(believers(25, 25, "11d", 50), 1, 0, 99, 0);
        days(believers(26, 25, "11d", 50), 1, 1, 99, 99);
        CHECK.promise("24 CALM is 10 at first");
        TandemRide x = Made.four(10, 7);
        x.rider(0, 10, 7, 9, 11);
        Check.say(x, "11d");
        days(x, 1, 1, 99, 99);
        CHECK.promise("24 both less than 100 together come to no quarrel, and calm nothing below 0");
        days(believers(0, 0, "12d", 0), 1, 0, 99, 0);
    }

    private static void mostQuarrel() {
        CHECK.promise("24 999 at most");
        days(believers(50, 50, "11d", 0), 1, 100, 9, 900, 10, 999, 11, 999, 99, 999);
        days(believers(50, 50, "11d", 10), 11, 990, 12, 999, 13, 999, 99, 999);
        days(believers(50, 50, "11d", 50), 19, 950, 20, 999, 99, 999);
        CHECK.promise("24 999 itself, and 998");
        days(believers(37, 0, "11d", 0), 26, 962, 27, 999, 28, 999);
        days(believers(20, 0, "11d", 10), 98, 980, 99, 990);
        days(believers(21, 0, "11d", 10), 90, 990, 91, 999);
    }

    private static void hundredthsAreCut() {
        CHECK.promise("24 hundredths of SHARE, cut for each: 33 and 66");
        days(believers(1, 0, "12d", 0), 99, 0);
        days(believers(0, 1, "12d", 0), 99, 0);
        days(believers(1, 1, "12d", 0), 1, 1, 99, 99);
        days(believers(0, 2, "21d", 0), 1, 1);
        days(believers(2, 0, "21d", 0), 1, 1);
        CHECK.promise("24 of all stretches: 1 by 3 and 2 by 3");
        TandemRide x = Made.two("..");
        x.rider(0, 10, 7, 9, 40);
        x.rider(1, 10, 7, 9, 40);
        x.set(2, 0);
        Check.say(x, "11dR01d");
        days(x, 1, 73 + 100 - 100);
    }

    private static void hundredAtMost() {
        CHECK.promise("24 its hundredths and THINKS, 100 at most");
        days(believers(50, 0, "10d", 0), 99, 0);
        days(believers(50, 1, "10d", 0), 1, 1);
        days(believers(0, 50, "10d", 0), 1, 50);
        days(believers(50, 50, "10d", 0), 1, 50);
        days(believers(0, 50, "01d", 0), 99, 0);
        days(believers(50, 50, "01d", 0), 1, 50);
        CHECK.promise("24 just 100, and one above: 75 and 25 hundredths");
        days(believers(24, 1, "31d", 0), 1, 25);
        days(believers(25, 0, "31d", 0), 1, 25);
        days(believers(26, 0, "31d", 0), 1, 25);
        days(believers(0, 25, "13d", 0), 1, 25);
        days(believers(0, 26, "13d", 0), 1, 25);
    }

    // ---- slips

    private static void homeBy(TandemRide x, int t, int seconds, long upper, long lower) {
        due("home(" + t + ", " + seconds + ", 0)", x.home(t, seconds, 0), upper);
        due("home(" + t + ", " + seconds + ", 1)", x.home(t, seconds, 1), lower);
    }

    /** Six seconds for each corner or bump, by the plan on the pad. */
    private static TandemRide sixSecondsEach(String way) {
        TandemRide x = Made.two(way);
        Check.say(x, "11b".repeat(way.length()));
        return x;
    }

    private static void noSlipAndAllSlips() {
        CHECK.promise("25 t 0: no corner slips; t 10: each does");
        TandemRide x = sixSecondsEach("c~c");
        homeBy(x, 0, 17, 0, 1);
        homeBy(x, 0, 18, 1, 1);
        homeBy(x, 10, 18, 0, 1);
        homeBy(x, 10, 27, 0, 1);
        homeBy(x, 10, 28, 1, 1);
        CHECK.promise("25 t 1 and t 9");
        homeBy(x, 1, 18, 81, 100);
        homeBy(x, 1, 23, 99, 100);
        homeBy(x, 9, 18, 1, 100);
        homeBy(x, 9, 23, 19, 100);
        CHECK.promise("25 in lowest terms");
        homeBy(x, 2, 18, 16, 25);
        homeBy(x, 4, 18, 9, 25);
        homeBy(x, 5, 18, 1, 4);
        homeBy(x, 5, 27, 3, 4);
        homeBy(x, 5, 28, 1, 1);
    }

    private static void secondsAtMost() {
        CHECK.promise("25 in so many SECONDS at most: just so many, one less, 5 more for a slip");
        TandemRide x = Made.four(20, 7);
        Check.takeWay(x, "c");
        Check.say(x, "44d");
        due("ridden(-1, 0)", x.ridden(-1, 0), 1);
        homeBy(x, 3, 0, 0, 1);
        homeBy(x, 3, 1, 7, 10);
        homeBy(x, 3, 5, 7, 10);
        homeBy(x, 3, 6, 1, 1);
        homeBy(x, 0, 0, 0, 1);
        homeBy(x, 10, 5, 0, 1);
        homeBy(x, 10, 6, 1, 1);
        CHECK.promise("25 the longest that any PLAN takes, and 9999");
        x = Made.four(1, 4);
        Check.takeWay(x, "U".repeat(24));
        x.set(1, 99);
        Check.say(x, "R00a".repeat(24));
        homeBy(x, 5, 0, 0, 1);
        homeBy(x, 5, 8159, 0, 1);
        homeBy(x, 5, 8160, 1, 1);
        homeBy(x, 5, 9999, 1, 1);
    }

    private static void twelveCorners() {
        CHECK.promise("25 12 corners, by each number of slips");
        TandemRide x = sixSecondsEach("c".repeat(12));
        long[] least = {1, 13, 79, 299, 794, 1586, 2510, 3302, 3797, 4017, 4083, 4095, 4096};
        for (int slips = 0; slips <= 12; slips++) {
            long upper = least[slips], lower = 4096;
            while (upper % 2 == 0) {
                upper /= 2;
                lower /= 2;
            }
            homeBy(x, 5, 72 + 5 * slips, upper, lower);
            if (slips < 12) homeBy(x, 5, 72 + 5 * slips + 4, upper, lower);
        }
        homeBy(x, 2, 72, 16777216, 244140625);
        homeBy(x, 3, 72 + 55, 999999468559L, 1000000000000L);
        homeBy(x, 1, 72 + 55, 999999999999L, 1000000000000L);
        homeBy(x, 9, 72, 1, 1000000000000L);
        CHECK.promise("25 FULL is of corners alone: 12 with 12 bumps are not too many");
        x = sixSecondsEach("c~".repeat(12));
        homeBy(x, 5, 144, 1, 4096);
        x = sixSecondsEach("~".repeat(24));
        homeBy(x, 5, 144, 1, 1);
        CHECK.promise("25 FULL: 13 corners");
        x = sixSecondsEach("c".repeat(13));
        homeBy(x, 5, 78, GONE + FULL, GONE + FULL);
        x = sixSecondsEach("c.".repeat(11) + "cc");
        homeBy(x, 0, 9999, GONE + FULL, GONE + FULL);
    }

    private static void noCorner() {
        CHECK.promise("25, 26 no corner, no chance");
        TandemRide x = sixSecondsEach(".~");
        for (int t = 0; t <= 10; t++) {
            homeBy(x, t, 11, 0, 1);
            homeBy(x, t, 12, 1, 1);
            meanBy(x, t, 12, 1);
        }
    }

    private static void meanBy(TandemRide x, int t, long upper, long lower) {
        due("mean(" + t + ", 0)", x.mean(t, 0), upper);
        due("mean(" + t + ", 1)", x.mean(t, 1), lower);
    }

    private static void means() {
        CHECK.promise("26 one corner, t 0 to 10, in lowest terms");
        TandemRide x = sixSecondsEach("c");
        for (int t = 0; t <= 10; t++) {
            if (t % 2 == 0) meanBy(x, t, 6 + t / 2, 1);
            else meanBy(x, t, 12 + t, 2);
        }
        CHECK.promise("26 12, 13 and 24 corners: none is too many");
        for (int corners = 12; corners <= 24; corners++) {
            x = sixSecondsEach("c".repeat(corners));
            meanBy(x, 0, 6 * corners, 1);
            meanBy(x, 2, 7 * corners, 1);
            meanBy(x, 10, 11 * corners, 1);
            if (corners % 2 == 1) meanBy(x, 1, 13 * corners, 2);
        }
        CHECK.promise("26 rests count");
        x = Made.two("c");
        Check.say(x, "R11b");
        meanBy(x, 1, 133, 2);
    }

    // ---- times

    private static void strongIs(TandemRide x, int rider, int... want) {
        for (int what = 0; what < 3; what++) {
            due("strong(" + rider + ", " + what + ")", x.strong(rider, what), want[what]);
        }
    }

    private static void sixTimes() {
        CHECK.promise("27, 28 TIMES, none to six, a seventh is refused");
        TandemRide x = Made.two(".");
        due("forget() of none", x.forget(), 0);
        for (int round = 0; round < 2; round++) {
            strongIs(x, 0, 20, 1, 20);
            for (int i = 1; i <= 5; i++) due("time, the " + i + "th", x.time(0, 0, 0, 31), i);
            due("time, the 6th", x.time(0, 0, 1, 2), 6);
            strongIs(x, 0, 6, 15, 20);
            due("time, the 7th", x.time(0, 0, 1, 31), FULL);
            due("time, the 7th, of another", x.time(1, 0, 1, 31), FULL);
            due("told(8)", x.told(8), 6);
            strongIs(x, 0, 6, 15, 20);
            strongIs(x, 1, 20, 1, 20);
            due("forget() of six", x.forget(), 6);
            due("told(8)", x.told(8), 0);
            due("forget() again", x.forget(), 0);
        }
        CHECK.promise("27 the first TIME counts, too");
        x.time(0, 0, 1, 16);
        for (int i = 2; i <= 6; i++) x.time(1, 0, 1, 11);
        strongIs(x, 0, 1, 1, 1);
        strongIs(x, 1, 1, 2, 2);
    }

    private static void strongest() {
        CHECK.promise("29 STRENGTHS 1 to 20, not 0, not 21");
        TandemRide x = Made.two(".");
        x.time(0, 2, 1, 6);
        strongIs(x, 0, 1, 20, 20);
        x.forget();
        x.time(0, 2, 1, 61);
        strongIs(x, 0, 1, 1, 1);
        x.forget();
        x.time(0, 2, 1, 121);
        strongIs(x, 0, 0, NONE, NONE);
        x.forget();
        x.time(0, 4, 4, 1);
        strongIs(x, 0, 18, 3, 20);
        x.forget();
        x.time(0, 4, 1, 2);
        strongIs(x, 0, 5, 5, 9);
        CHECK.promise("29 its own STRENGTH is not known, nor its LIKES");
        x.rider(0, 20, 10, 1, 0);
        strongIs(x, 0, 5, 5, 9);
        x.rider(0, 1, 4, 1, 0);
        strongIs(x, 0, 5, 5, 9);
        CHECK.promise("29 all that fit, between them some that do not: none are counted but those");
        x.time(0, 2, 1, 13);
        strongIs(x, 0, 1, 9, 9);
    }

    private static void noStrengthFits() {
        CHECK.promise("29 NONE: none fits");
        TandemRide x = Made.two(".");
        x.time(0, 0, 1, 300);
        strongIs(x, 0, 0, NONE, NONE);
        strongIs(x, 1, 20, 1, 20);
        x.forget();
        x.time(0, 0, 1, 16);
        x.time(0, 0, 1, 2);
        strongIs(x, 0, 0, NONE, NONE);
        CHECK.promise("29 with EFFORT 0 all fit, or none");
        int[] still = {31, 61, 121, 16, 11};
        for (int sort = 0; sort < 5; sort++) {
            for (int beside = -1; beside <= 1; beside++) {
                x.forget();
                x.time(1, sort, 0, still[sort] + beside);
                if (beside == 0) strongIs(x, 1, 20, 1, 20);
                else strongIs(x, 1, 0, NONE, NONE);
            }
        }
    }

    private static void strongOfEachSort() {
        CHECK.promise("29 sorts 0 to 4, EFFORTS 1 to 4, each STRENGTH by the TIME that it has");
        TandemRide x = Made.two(".");
        int[] half = {30, 60, 120, 15, 10};
        for (int sort = 0; sort < 5; sort++) {
            for (int e = 1; e <= 4; e++) {
                for (int s = 1; s <= 20; s += 19) {
                    int v = half[sort] / (1 + e * s) + 1;
                    int least = s, greatest = s;
                    while (least > 1 && half[sort] / (1 + e * (least - 1)) + 1 == v) least--;
                    while (greatest < 20 && half[sort] / (1 + e * (greatest + 1)) + 1 == v) greatest++;
                    x.forget();
                    x.time(0, sort, e, v);
                    strongIs(x, 0, greatest - least + 1, least, greatest);
                }
            }
        }
    }

    // ---- years

    private static void yearIs(TandemRide x, int seed, int n, int... want) {
        for (int what = 0; what < 3; what++) {
            due("year(" + seed + ", " + n + ", " + what + ")", x.year(seed, n, what), want[what]);
        }
    }

    private static void yearsOfOneDay() {
        CHECK.promise("30 one day: the sum, the least and the greatest are one");
        TandemRide x = Made.four(1, 4);
        yearIs(x, 0, 1, 13, 13, 13);
        yearIs(x, 9999, 1, 21, 21, 21);
        CHECK.promise("30 day by day from seed 0: 3 at 7, 3 at 9, 3 at 6, 2 at 5");
        yearIs(x, 0, 2, 34, 13, 21);
        yearIs(x, 0, 3, 47, 13, 21);
        yearIs(x, 0, 4, 68, 13, 21);
    }

    private static void years() {
        CHECK.promise("30 years of 1 to 99 days, by seeds 0 to 9999");
        TandemRide x = new TandemRide();
        x.rider(0, 1, 4, 9, 0);
        x.rider(1, 3, 9, 9, 0);
        int[] seeds = {0, 1, 74, 4999, 9998, 9999};
        int[] daysOfYears = {1, 2, 50, 98, 99};
        for (int seed : seeds) {
            for (int n : daysOfYears) yearIs(x, seed, n, daysFrom(seed, n));
        }
    }

    /** The sum, the least and the greatest of the days on one flat stretch, by the treads that are told. */
    private static int[] daysFrom(long seed, int n) {
        long state = seed;
        int[] days = {0, Integer.MAX_VALUE, 0};
        for (int day = 0; day < n; day++) {
            state = (75 * state + 74) % 65537;
            int effort = 1 + (int) (state % 3), beat = 4 + (int) (state / 3 % 7);
            int seconds = 60 / (1 + effort * (10 - Math.abs(beat - 4)) / 10 + 3 * effort * (10 - Math.abs(beat - 9)) / 10) + 1;
            days[0] += seconds;
            days[1] = Math.min(days[1], seconds);
            days[2] = Math.max(days[2], seconds);
        }
        return days;
    }

    private static void yearWithoutALook() {
        CHECK.promise("30 WIND, HEAT not looked at, all THE WAY, no PLAN needed");
        TandemRide x = new TandemRide();
        x.rider(0, 20, 7, 1, 0);
        x.rider(1, 20, 7, 1, 0);
        Check.takeWay(x, "D".repeat(24));
        x.set(0, 5);
        x.say('x');
        yearIs(x, 0, 4, 96, 24, 24);
    }

    // ---- images

    private static void imagesStandAlone() {
        CHECK.promise("31 an IMAGE is as it was when it was kept, whatever comes behind");
        for (int n = 0; n < 2; n++) {
            TandemRide x = Made.rich();
            due("image(" + n + ")", x.image(n), 1);
            due("set(0, 20)", x.set(0, 20), 11);
            due("set(1, 99)", x.set(1, 99), 7);
            due("set(2, 50)", x.set(2, 50), 3);
            x.seat(0, 3);
            x.rider(2, 1, 4, 1, 0);
            x.leave(1);
            x.time(0, 0, 1, 1);
            Check.takeWay(x, "UU");
            due("restore(" + n + ")", x.restore(n), 1);
            Check.pad(x, "12dR21e11a");
            TandemRide want = Made.rich();
            want.image(n);
            String change = Look.firstChange(want, x);
            CHECK.due("restored otherwise: " + change, change.isEmpty());
        }
        CHECK.promise("32 what is done behind a restore does not come into the IMAGE");
        TandemRide x = new TandemRide();
        x.rider(0, 5, 5, 5, 5);
        x.image(0);
        for (int round = 0; round < 3; round++) {
            due("restore(0)", x.restore(0), 1);
            due("told(1)", x.told(1), 1);
            due("told(10)", x.told(10), 5);
            due("told(7)", x.told(7), 1);
            due("told(100)", x.told(100), '.');
            due("told(8)", x.told(8), 0);
            x.rider(0, 6, 6, 6, 6);
            x.rider(1, 6, 6, 6, 6);
            Check.takeWay(x, "uu");
            x.time(0, 0, 0, 1);
        }
        CHECK.promise("31 an IMAGE over an IMAGE: the later one is kept");
        x.image(0);
        x.leave(0);
        due("restore(0)", x.restore(0), 1);
        due("told(10)", x.told(10), 6);
        due("told(8)", x.told(8), 1);
        CHECK.promise("31 TIMES are kept whole: whose, of which sort, with which EFFORT, how long");
        x = Made.two(".");
        x.time(1, 2, 3, 120 / 10 + 1);
        x.image(1);
        x.forget();
        x.time(0, 1, 2, 60 / 9 + 1);
        due("restore(1)", x.restore(1), 1);
        strongIs(x, 0, 20, 1, 20);
        strongIs(x, 1, 1, 3, 3);
        CHECK.promise("31 IMAGES 0 and 1 stand apart, and a restore leaves both");
        x.set(1, 1);
        x.image(0);
        x.set(1, 2);
        x.image(1);
        x.set(1, 3);
        int[] order = {0, 1, 1, 0, 0, 1};
        for (int n : order) {
            due("restore(" + n + ")", x.restore(n), 1);
            due("told(5)", x.told(5), n + 1);
        }
    }

    private static void thePadIsNotKept() {
        CHECK.promise("31, 32 all but the PAD");
        TandemRide x = new TandemRide();
        Check.say(x, "ud");
        x.image(0);
        due("told(0) behind image()", x.told(0), 2);
        x.say('c');
        due("restore(0)", x.restore(0), 1);
        due("told(0), the PAD as it is", x.told(0), 3);
        due("way()", x.way(), 3);
        due("told(102)", x.told(102), 'c');
        due("restore(0)", x.restore(0), 1);
        due("told(0), the empty PAD", x.told(0), 0);
        due("told(7)", x.told(7), 1);
        CHECK.promise("32 THE FAULT of a PLAN is by THE WAY that is restored");
        Check.takeWay(x, "..");
        x.image(1);
        Check.say(x, "22d");
        due("fault(1) by two", x.fault(1), 3);
        x.restore(0);
        due("fault(1) by one", x.fault(1), NONE);
        x.restore(1);
        due("fault(1) by two again", x.fault(1), 3);
        CHECK.promise("32 the full PAD stays full");
        Check.pad(x, "c".repeat(110));
        x.restore(0);
        due("say('c')", x.say('c'), FULL);
        due("told(0)", x.told(0), 110);
    }

    private static void imagesOfNobody() {
        CHECK.promise("32 STATE: it was not kept, though the other was");
        TandemRide x = new TandemRide();
        due("image(0)", x.image(0), 1);
        due("restore(1)", x.restore(1), STATE);
        due("image(1)", x.image(1), 1);
        due("restore(1)", x.restore(1), 1);
        CHECK.promise("31 an IMAGE of an object where nobody is");
        x.rider(0, 5, 5, 5, 5);
        x.rider(3, 5, 5, 5, 5);
        x.seat(3, 0);
        x.time(3, 0, 0, 1);
        x.restore(0);
        String change = Look.firstChange(withBothImages(), x);
        CHECK.due("not as new: " + change, change.isEmpty());
    }

    private static TandemRide withBothImages() {
        TandemRide x = new TandemRide();
        x.image(0);
        x.image(1);
        return x;
    }

    private static void allIsTold() {
        CHECK.promise("33 the RIDERS as bits, all sixteen");
        for (int bits = 0; bits < 16; bits++) {
            TandemRide x = new TandemRide();
            for (int r = 0; r < 4; r++) {
                if ((bits >> r & 1) != 0) x.rider(r, 11 + r, 5 + r, 2 + r, 41 + r);
            }
            due("told(1)", x.told(1), bits);
            for (int r = 0; r < 4; r++) {
                boolean there = (bits >> r & 1) != 0;
                int[] want = {11 + r, 5 + r, 2 + r, 41 + r};
                for (int i = 0; i < 4; i++) {
                    due("told(" + (10 * r + 10 + i) + ")", x.told(10 * r + 10 + i), there ? want[i] : OUTSIDE);
                }
            }
        }
        CHECK.promise("33 100 and a stretch: 1 and 24 of them");
        TandemRide x = new TandemRide();
        due("told(99)", x.told(99), OUTSIDE);
        due("told(100)", x.told(100), '.');
        due("told(101)", x.told(101), OUTSIDE);
        Check.takeWay(x, ".uUdDc~".repeat(3) + "DcU");
        due("told(7)", x.told(7), 24);
        due("told(99)", x.told(99), OUTSIDE);
        for (int i = 0; i < 21; i++) due("told(" + (100 + i) + ")", x.told(100 + i), ".uUdDc~".charAt(i % 7));
        due("told(121)", x.told(121), 'D');
        due("told(123)", x.told(123), 'U');
        due("told(124)", x.told(124), OUTSIDE);
        CHECK.promise("33 0 and 110 signs, 0 and 6 TIMES");
        due("told(0)", x.told(0), 0);
        Check.pad(x, "!".repeat(110));
        due("told(0)", x.told(0), 110);
        due("told(8)", x.told(8), 0);
        x.rider(0, 1, 4, 1, 0);
        for (int i = 0; i < 6; i++) x.time(0, 0, 0, 1);
        due("told(8)", x.told(8), 6);
    }
}
