/**
 * Promises 11 to 16 at their edges: wind at 0 and at its most, heat at 0 and at HOTTEST, seconds just cut, rests of 0
 * and 99 seconds, reasons that fit together, nobody treading, several soonest plans, several best beats.
 */
public final class RideEdgesTest {
    private static final int NONE = -6, STUCK = -1;
    private static final long GONE = -1000000000000000000L;
    private static final Check CHECK = new Check();

    public static void main(String[] args) {
        winds();
        heats();
        secondsAreCut();
        rests();
        reasons();
        firstStretchThatCanNotBe();
        behindWhichStretch();
        nobodyTreads();
        lowestTerms();
        unseenOrNot();
        unseenBits();
        soonestOfSeveral();
        soonestWithRests();
        soonestWithLittleWind();
        soonestOfUnlikeTwo();
        oneBeatOfSeveral();
        oneBeatWithoutALook();
        CHECK.end("RideEdgesTest");
    }

    private static void due(String call, long got, long want) {
        CHECK.due(call, got, want);
    }

    /** Two riders who like the beat d (7). */
    private static TandemRide both(int strengthFront, int strengthBack, String way) {
        TandemRide x = new TandemRide();
        x.rider(0, strengthFront, 7, 9, 0);
        x.rider(1, strengthBack, 7, 9, 0);
        Check.takeWay(x, way);
        return x;
    }

    // ---- wind, heat

    /** The winds behind each stretch by these efforts, as FRONT and as BACK; STUCK where it can not be. */
    private static void windsOf(int wind, String efforts, int... want) {
        int last = want.length - 1;
        for (int seat = 0; seat < 2; seat++) {
            TandemRide x = both(1, 1, ".".repeat(want.length));
            x.rider(seat, 1, 7, wind, 0);
            for (int i = 0; i < want.length; i++) {
                char e = efforts.charAt(i);
                Check.say(x, seat == 0 ? e + "2d" : "2" + e + "d");
            }
            String name = efforts + " by WIND " + wind + (seat == 0 ? " of FRONT" : " of BACK");
            boolean stuck = want[last] == STUCK;
            due("judge(0) of " + name, x.judge(0), stuck ? last : NONE);
            due("judge(1) of " + name, x.judge(1), stuck ? seat + 1 : NONE);
            for (int m = 0; m <= last; m++) {
                due("ridden(" + m + ") of " + name, x.ridden(m, 1 + seat), stuck ? -5 : want[m]);
                due("ridden(" + m + ") of the other", x.ridden(m, 2 - seat), stuck ? -5 : 9);
            }
        }
    }

    private static void winds() {
        CHECK.promise("12 WIND is the most at the start, and never above it");
        windsOf(9, "0", 9);
        windsOf(9, "1", 9);
        windsOf(9, "2", 9);
        windsOf(1, "0", 1);
        windsOf(1, "1", 1);
        windsOf(9, "300", 8, 9, 9);
        windsOf(9, "411", 7, 8, 9);
        windsOf(9, "4111", 7, 8, 9, 9);
        windsOf(9, "44000", 7, 5, 7, 9, 9);
        windsOf(1, "30", 0, 1);
        windsOf(2, "4010", 0, 2, 2, 2);
        CHECK.promise("12 by e 0 two more, by e 1 one more, by e 2 none, by e 3 one less, by e 4 two less");
        windsOf(9, "444012340", 7, 5, 3, 5, 6, 6, 5, 3, 5);
        CHECK.promise("11, 12 WIND can be 0");
        windsOf(1, "3", 0);
        windsOf(2, "4", 0);
        windsOf(1, "32", 0, 0);
        windsOf(1, "313", 0, 1, 0);
        windsOf(2, "404", 0, 2, 0);
        windsOf(9, "333333333", 8, 7, 6, 5, 4, 3, 2, 1, 0);
        CHECK.promise("11 WIND can not be below 0");
        windsOf(1, "4", STUCK);
        windsOf(1, "33", 0, STUCK);
        windsOf(1, "34", 0, STUCK);
        windsOf(2, "43", 0, STUCK);
        windsOf(2, "44", 0, STUCK);
        windsOf(2, "414", 0, 1, STUCK);
        windsOf(9, "44444", 7, 5, 3, 1, STUCK);
        windsOf(9, "3333333333", 8, 7, 6, 5, 4, 3, 2, 1, 0, STUCK);
    }

    /** The heats behind each stretch; STUCK where it can not be. */
    private static void heatsOf(int hottest, String way, int... want) {
        TandemRide x = both(1, 1, way);
        x.set(0, hottest);
        Check.say(x, "22d".repeat(way.length()));
        int last = want.length - 1;
        boolean stuck = want[last] == STUCK;
        String name = way + " by HOTTEST " + hottest;
        due("judge(0) of " + name, x.judge(0), stuck ? last : NONE);
        due("judge(1) of " + name, x.judge(1), stuck ? 3 : NONE);
        for (int m = 0; m <= last; m++) due("ridden(" + m + ", 3) of " + name, x.ridden(m, 3), stuck ? -5 : want[m]);
    }

    private static void heats() {
        CHECK.promise("12 HEAT is 0 at the start; 2 more on d, 5 on D");
        heatsOf(10, "d", 2);
        heatsOf(10, "D", 5);
        heatsOf(20, "dDdDd", 2, 7, 9, 14, 16);
        CHECK.promise("12 else 1 less, 0 at least");
        for (char c : ".uUc~".toCharArray()) {
            heatsOf(10, "" + c, 0);
            heatsOf(10, "D" + c, 5, 4);
            heatsOf(10, "d" + c + c + c + "d", 2, 1, 0, 0, 2);
        }
        CHECK.promise("11 HEAT can be as much as HOTTEST");
        heatsOf(5, "D", 5);
        heatsOf(5, "D..d", 5, 4, 3, 5);
        heatsOf(6, "ddd", 2, 4, 6);
        heatsOf(7, "Dd", 5, 7);
        heatsOf(10, "DD", 5, 10);
        heatsOf(20, "DDDD", 5, 10, 15, 20);
        heatsOf(20, "dddddddddd", 2, 4, 6, 8, 10, 12, 14, 16, 18, 20);
        CHECK.promise("11 HEAT can not be above HOTTEST");
        heatsOf(5, "ddd", 2, 4, STUCK);
        heatsOf(5, "D.d", 5, 4, STUCK);
        heatsOf(6, "Dd", 5, STUCK);
        heatsOf(9, "DD", 5, STUCK);
        heatsOf(19, "DDDD", 5, 10, 15, STUCK);
        heatsOf(20, "DDDDD", 5, 10, 15, 20, STUCK);
        heatsOf(20, "DDDDd", 5, 10, 15, 20, STUCK);
        heatsOf(20, "ddddddddddd", 2, 4, 6, 8, 10, 12, 14, 16, 18, 20, STUCK);
    }

    // ---- seconds, rests

    private static void takes(String way, int efforts, int strengthFront, int strengthBack, int seconds) {
        TandemRide x = both(strengthFront, strengthBack, way);
        Check.say(x, "" + efforts / 10 + efforts % 10 + "d");
        due("seconds of " + way + " by " + efforts + ", " + strengthFront + ", " + strengthBack, x.ridden(0, 0), seconds);
    }

    private static void secondsAreCut() {
        CHECK.promise("12 HARD, by 1 alone if nobody treads, and 1");
        String[] ways = {".", "u", "U", "d", "D", "c", "~"};
        int[] hard = {60, 120, 240, 30, 20, 60, 60};
        for (int i = 0; i < 7; i++) takes(ways[i], 0, 20, 20, hard[i] + 1);
        for (int i = 0; i < 7; i++) takes(ways[i], 10, 1, 20, hard[i] / 2 + 1);
        for (int i = 0; i < 7; i++) takes(ways[i], 1, 20, 1, hard[i] / 2 + 1);
        CHECK.promise("12 cut: just at, just behind what divides HARD");
        takes(".", 11, 20, 9, 3);
        takes(".", 11, 20, 10, 2);
        takes(".", 21, 20, 19, 2);
        takes(".", 21, 20, 20, 1);
        takes("c", 21, 20, 19, 2);
        takes("c", 21, 20, 20, 1);
        takes("~", 21, 20, 19, 2);
        takes("~", 21, 20, 20, 1);
        takes("u", 43, 20, 13, 2);
        takes("u", 44, 20, 10, 1);
        takes("U", 43, 20, 13, 3);
        takes("U", 44, 20, 10, 2);
        takes("U", 44, 20, 20, 2);
        takes("d", 11, 20, 9, 2);
        takes("d", 11, 20, 10, 1);
        takes("D", 11, 18, 1, 2);
        takes("D", 11, 19, 1, 1);
        takes(".", 11, 3, 3, 9);
        CHECK.promise("12 both TREADS are cut, each for itself");
        TandemRide x = both(19, 19, ".");
        Check.say(x, "11c");
        due("seconds by 17 and 17", x.ridden(0, 0), 60 / 35 + 1);
        x = both(9, 9, "D");
        Check.say(x, "11c");
        due("seconds by 8 and 8", x.ridden(0, 0), 20 / 17 + 1);
        x = both(1, 1, ".");
        Check.say(x, "44c");
        due("seconds by 3 and 3", x.ridden(0, 0), 60 / 7 + 1);
    }

    private static void rests() {
        int[] pauses = {0, 1, 60, 98, 99};
        for (int pause : pauses) {
            CHECK.promise("12 a rest of PAUSE " + pause);
            TandemRide x = both(1, 1, "DDD");
            x.set(1, pause);
            Check.say(x, "R40dR04dR44d");
            int[] took = {20 / 5 + 1, 20 / 5 + 1, 20 / 9 + 1};
            int spent = 0;
            for (int m = 0; m < 3; m++) {
                spent += pause + took[m];
                due("ridden(" + m + ", 0)", x.ridden(m, 0), spent);
                due("ridden(" + m + ", 1)", x.ridden(m, 1), m == 1 ? 9 : 7);
                due("ridden(" + m + ", 2)", x.ridden(m, 2), m == 0 ? 9 : 7);
                due("ridden(" + m + ", 3)", x.ridden(m, 3), 5);
            }
            Check.pad(x, "44d44dR22d");
            due("ridden(1, 0), ahead of the rest", x.ridden(1, 0), 6);
            due("ridden(1, 1), ahead of the rest", x.ridden(1, 1), 5);
            due("ridden(1, 3), ahead of the rest", x.ridden(1, 3), 10);
            due("ridden(2, 0), behind the rest", x.ridden(2, 0), 6 + pause + 5);
            due("ridden(2, 1), behind the rest", x.ridden(2, 1), 9);
            due("ridden(2, 2), behind the rest", x.ridden(2, 2), 9);
            due("ridden(2, 3), behind the rest", x.ridden(2, 3), 5);
        }
        CHECK.promise("12 behind a rest both have their most WIND then, not more");
        TandemRide x = new TandemRide();
        x.rider(0, 1, 7, 1, 0);
        x.rider(1, 1, 7, 2, 0);
        Check.takeWay(x, "...");
        Check.say(x, "34dR00dR34d");
        due("ridden(0, 1)", x.ridden(0, 1), 0);
        due("ridden(1, 1)", x.ridden(1, 1), 1);
        due("ridden(1, 2)", x.ridden(1, 2), 2);
        due("ridden(2, 1)", x.ridden(2, 1), 0);
        due("ridden(2, 2)", x.ridden(2, 2), 0);
        CHECK.promise("11 a rest does not help a stretch that takes more than the most");
        Check.pad(x, "22dR42d22d");
        due("judge(0)", x.judge(0), 1);
        CHECK.promise("12 PAUSE is 60 at first");
        x = both(1, 1, ".");
        Check.say(x, "R00d");
        due("ridden(-1, 0)", x.ridden(-1, 0), 121);
    }

    // ---- judging

    private static void judged(TandemRide x, String plan, int stretch, int reason) {
        Check.pad(x, plan);
        due("judge(0) of " + plan, x.judge(0), stretch);
        due("judge(1) of " + plan, x.judge(1), reason);
    }

    private static void reasons() {
        CHECK.promise("11 for the least reason, where two or three fit");
        TandemRide x = new TandemRide();
        x.rider(0, 1, 7, 1, 0);
        x.rider(1, 1, 7, 1, 0);
        Check.takeWay(x, "Dd");
        x.set(0, 5);
        judged(x, "22d44d", 1, 1);
        judged(x, "22d42d", 1, 1);
        judged(x, "22d24d", 1, 2);
        judged(x, "22d22d", 1, 3);
        judged(x, "22dR22d", NONE, NONE);
        x.set(0, 7);
        judged(x, "22d44d", 1, 1);
        judged(x, "22d24d", 1, 2);
        judged(x, "22d22d", NONE, NONE);
        CHECK.promise("11 the reasons are of FRONT and of BACK, whoever sits there");
        x.rider(0, 1, 7, 9, 0);
        judged(x, "44d22d", 0, 2);
        x.seat(1, 0);
        judged(x, "44d22d", 0, 1);
        judged(x, "24d24d", NONE, NONE);
    }

    private static void firstStretchThatCanNotBe() {
        CHECK.promise("11 the first stretch that can not be, whatever comes behind it");
        TandemRide x = new TandemRide();
        x.rider(0, 1, 7, 1, 0);
        x.rider(1, 1, 7, 1, 0);
        Check.takeWay(x, "dddd");
        x.set(0, 5);
        judged(x, "24d42d22d22d", 0, 2);
        judged(x, "22d22d22d44d", 2, 3);
        judged(x, "22d24dR44d22d", 1, 2);
        judged(x, "22d22dR22d42d", 3, 1);
        CHECK.promise("11 the last of 24 stretches");
        Check.takeWay(x, ".".repeat(24));
        judged(x, "22d".repeat(23) + "42d", 23, 1);
        judged(x, "22d".repeat(23) + "24d", 23, 2);
        judged(x, "22d".repeat(23) + "33d", NONE, NONE);
        Check.takeWay(x, ".".repeat(22) + "DD");
        judged(x, "22d".repeat(24), 23, 3);
    }

    private static void behindWhichStretch() {
        CHECK.promise("12 m -1 is all, 0 the first, stretches less 1 the last");
        for (int many = 1; many <= 24; many += many == 1 ? 22 : 1) {
            TandemRide x = both(1, 1, ".".repeat(many));
            Check.say(x, "00d".repeat(many));
            due("ridden(-1, 0) of " + many, x.ridden(-1, 0), 61 * many);
            for (int m = 0; m < many; m++) due("ridden(" + m + ", 0) of " + many, x.ridden(m, 0), 61 * (m + 1));
            due("ridden(" + many + ", 0) of " + many, x.ridden(many, 0), -2);
            due("ridden(-2, 0) of " + many, x.ridden(-2, 0), -2);
        }
    }

    // ---- shares

    private static void shares(TandemRide x, String plan, long upper, long lower) {
        Check.pad(x, plan);
        due("share(0) of " + plan, x.share(0), upper);
        due("share(1) of " + plan, x.share(1), lower);
    }

    private static void nobodyTreads() {
        CHECK.promise("13 0 by 1, if nobody treads");
        TandemRide x = both(20, 20, "..");
        shares(x, "00d00d", 0, 1);
        shares(x, "00aR00g", 0, 1);
        CHECK.promise("13 0 by 1, if EFFORTS are cut to no TREADS");
        x = new TandemRide();
        x.rider(0, 1, 10, 9, 0);
        x.rider(1, 1, 10, 9, 0);
        shares(x, "11a", 0, 1);
        shares(x, "12a", 0, 1);
        shares(x, "31a", 1, 1);
        CHECK.promise("13 FRONT alone, BACK alone");
        x = both(20, 20, "..");
        shares(x, "40d40d", 1, 1);
        shares(x, "00d10d", 1, 1);
        shares(x, "04d04d", 0, 1);
        shares(x, "00d01d", 0, 1);
    }

    private static void lowestTerms() {
        CHECK.promise("13 in lowest terms");
        TandemRide x = both(20, 20, "..");
        shares(x, "44d44d", 1, 2);
        shares(x, "10d03d", 1, 4);
        shares(x, "10d02d", 1, 3);
        x = both(20, 3, "..");
        shares(x, "44d00d", 20, 23);
        shares(x, "43d00d", 80, 89);
        x = both(20, 20, ".".repeat(24));
        shares(x, "44dR".repeat(23) + "43d", 24 * 80 / 20, (24 * 160 - 20) / 20);
        CHECK.promise("13 refused with GONE and the refusal");
        due("share(2)", x.share(2), GONE - 2);
        x.say('d');
        due("share(0)", x.share(0), GONE - 5);
        x.leave(0);
        due("share(0)", x.share(0), GONE - 3);
    }

    // ---- the unseen

    private static void unseenOf(TandemRide x, String plan, int bits) {
        Check.pad(x, plan);
        due("unseen() of " + plan, x.unseen(), bits);
    }

    private static void unseenOrNot() {
        CHECK.promise("14 the SECONDS were the same, or one less");
        TandemRide x = both(10, 14, ".");
        unseenOf(x, "32d", 1);
        x.rider(1, 11, 8, 9, 0);
        unseenOf(x, "33d", 1);
        x.rider(1, 10, 7, 9, 0);
        unseenOf(x, "33d", 0);
        CHECK.promise("14 or BACK has EFFORT 0");
        unseenOf(x, "00d", 1);
        unseenOf(x, "40d", 1);
        CHECK.promise("14 EFFORT of BACK that is cut to no TREAD");
        x.rider(1, 1, 7, 9, 0);
        unseenOf(x, "01c", 1);
        unseenOf(x, "01d", 0);
        CHECK.promise("14 FRONT is never carried");
        x.rider(0, 1, 7, 9, 0);
        unseenOf(x, "11c", 1);
        unseenOf(x, "10d", 1);
        unseenOf(x, "11d", 0);
    }

    private static void unseenBits() {
        CHECK.promise("14 bits, the first stretch's and the 24th's");
        TandemRide x = both(1, 1, ".".repeat(24));
        unseenOf(x, "22d".repeat(24), 0);
        unseenOf(x, "20d".repeat(24), 0xFFFFFF);
        unseenOf(x, "20d" + "22d".repeat(23), 1);
        unseenOf(x, "22d".repeat(23) + "20d", 1 << 23);
        unseenOf(x, "22d20d".repeat(12), 0xAAAAAA);
    }

    // ---- the soonest

    private static void soonestOf(TandemRide x, int seconds, int first) {
        due("soonest(0)", x.soonest(0), seconds);
        due("soonest(1)", x.soonest(1), first);
    }

    private static void soonestOfSeveral() {
        CHECK.promise("15 of several: the least EFFORT of FRONT, then of BACK");
        TandemRide x = both(20, 20, ".");
        soonestOf(x, 1, 33);
        x.rider(1, 19, 7, 9, 0);
        soonestOf(x, 1, 41);
        x.rider(1, 15, 7, 9, 0);
        soonestOf(x, 1, 43);
        x.rider(1, 14, 7, 9, 0);
        soonestOf(x, 1, 133);
        x.rider(1, 1, 7, 9, 0);
        soonestOf(x, 1, 303);
        CHECK.promise("15 then the least BEAT");
        x = both(20, 20, "d");
        soonestOf(x, 1, 21);
        x.rider(1, 20, 10, 9, 0);
        soonestOf(x, 1, 24);
        x.rider(1, 20, 4, 9, 0);
        soonestOf(x, 1, 20);
        CHECK.promise("15 of several: without a rest ahead of it, though it takes no time");
        x.set(1, 0);
        soonestOf(x, 1, 20);
        Check.takeWay(x, "DD");
        x.set(0, 5);
        soonestOf(x, 2, 10);
        CHECK.promise("15 24 stretches");
        x = both(20, 20, ".".repeat(24));
        soonestOf(x, 24, 33);
        CHECK.promise("15 the weakest: every EFFORT counts, the BEAT too");
        x = both(1, 1, ".");
        soonestOf(x, 60 / 9 + 1, 443);
        x.rider(0, 1, 7, 1, 0);
        soonestOf(x, 60 / 8 + 1, 343);
        x.rider(1, 1, 7, 1, 0);
        soonestOf(x, 60 / 7 + 1, 333);
    }

    private static void soonestWithRests() {
        int[] pauses = {0, 1, 99};
        for (int pause : pauses) {
            CHECK.promise("15 with rests ahead of any stretches, of PAUSE " + pause);
            TandemRide x = both(20, 20, "D".repeat(24));
            x.set(1, pause);
            x.set(0, 5);
            soonestOf(x, 24 + 23 * pause, 13);
            x.set(0, 9);
            soonestOf(x, 24 + 23 * pause, 13);
            x.set(0, 10);
            soonestOf(x, 24 + 11 * pause, 13);
            x.set(0, 20);
            soonestOf(x, 24 + 5 * pause, 13);
            x.set(0, 5);
            Check.takeWay(x, "D....D");
            soonestOf(x, 6 + pause, 13);
            Check.takeWay(x, "D.....D");
            soonestOf(x, 7, 13);
        }
        CHECK.promise("15 a rest is taken if it is sooner, not if it is as soon or later");
        // Without a rest 24 then 42, or 33 twice, takes 35 + 35; with one 44 twice takes 27 + 27 and PAUSE.
        TandemRide x = both(1, 1, "UU");
        x.rider(0, 1, 7, 2, 0);
        x.rider(1, 1, 7, 2, 0);
        x.set(1, 0);
        soonestOf(x, 54, 443);
        x.set(1, 15);
        soonestOf(x, 69, 443);
        x.set(1, 16);
        soonestOf(x, 70, 243);
        x.set(1, 17);
        soonestOf(x, 70, 243);
    }

    private static void soonestWithLittleWind() {
        CHECK.promise("15 of any PLAN that can be: WIND of both at 0, never below");
        TandemRide x = both(20, 20, ".".repeat(24));
        x.rider(0, 20, 7, 1, 0);
        x.rider(1, 20, 7, 1, 0);
        soonestOf(x, 24, 33);
        x.rider(0, 1, 7, 1, 0);
        x.rider(1, 1, 7, 1, 0);
        Check.takeWay(x, "..");
        x.set(1, 99);
        // 33 then 22 takes 9 + 13, 23 twice takes 11 + 11, 22 then 33 takes 13 + 9.
        soonestOf(x, 22, 223);
        CHECK.promise("15 soonest is of FRONT and BACK as they sit");
        x = both(20, 1, ".");
        soonestOf(x, 1, 303);
        x.seat(1, 0);
        soonestOf(x, 1, 33);
    }

    /** Two of other strengths and winds, who like the beat d. */
    private static TandemRide unlike(String way, int strengthFront, int windFront, int strengthBack, int windBack) {
        TandemRide x = new TandemRide();
        x.rider(0, strengthFront, 7, windFront, 0);
        x.rider(1, strengthBack, 7, windBack, 0);
        Check.takeWay(x, way);
        return x;
    }

    private static void soonestOfUnlikeTwo() {
        CHECK.promise("15 the BEATS 4 and 10 themselves");
        TandemRide x = both(1, 1, ".");
        x.rider(0, 1, 10, 9, 0);
        x.rider(1, 1, 10, 9, 0);
        soonestOf(x, 60 / 9 + 1, 446);
        x.rider(0, 1, 4, 9, 0);
        x.rider(1, 1, 4, 9, 0);
        soonestOf(x, 60 / 9 + 1, 440);
        CHECK.promise("15 the WIND of each is its own");
        x = unlike("UUUUU", 1, 9, 1, 1);
        // FRONT has 19 EFFORTS in all, BACK 11: six on each stretch, and FRONT can not have less than 3 on one.
        soonestOf(x, 5 * 35, 333);
        x.seat(1, 0);
        // FRONT has 11 now: 2 on the first, and 3 on a later one.
        soonestOf(x, 5 * 35, 243);
        x.set(1, 0);
        soonestOf(x, 5 * 31, 343);
        x.seat(0, 1);
        soonestOf(x, 5 * 31, 433);
        // 43 then 32, or 33 then 42.
        soonestOf(unlike(".d", 1, 3, 1, 1), 14, 333);
        // 34 then 22.
        soonestOf(unlike("uD", 3, 1, 1, 2), 9 + 3, 343);
        // 42 then 30.
        soonestOf(unlike("Ud", 7, 3, 1, 2), 8 + 2, 423);
        // 03 then 34.
        soonestOf(unlike("d.", 1, 1, 5, 3), 2 + 3, 33);
        CHECK.promise("15 EFFORT 0 of both takes HARD by 1 alone, whatever WIND it brings back");
        // 24, 20, 44; on 44, 00, 44 the middle one would take 14 more on D, 20 more on d, and the first 8 less.
        soonestOf(unlike("UDU", 1, 2, 1, 2), 35 + 7 + 27, 243);
        soonestOf(unlike("UdU", 1, 2, 1, 2), 35 + 11 + 27, 243);
        CHECK.promise("15 behind a rest each has its own most WIND");
        x = unlike("d.", 1, 3, 1, 1);
        x.set(1, 1);
        // 43, a rest, 43 again.
        soonestOf(x, 4 + 1 + 8, 433);
        CHECK.promise("15 a rest for HEAT is ahead of the stretch where WIND is worth most, too");
        x = unlike("dUD", 1, 3, 1, 3);
        x.set(0, 5);
        // 34, a rest, 44, 33: a rest ahead of D instead takes a second more.
        soonestOf(x, 4 + 60 + 27 + 3, 343);
    }

    // ---- one beat

    private static void oneBeatOf(TandemRide x, int front, int back, int... want) {
        for (int what = 0; what < 4; what++) {
            due("oneBeat(" + front + ", " + back + ", " + what + ")", x.oneBeat(front, back, what), want[what]);
        }
    }

    private static void oneBeatOfSeveral() {
        CHECK.promise("16 the BEAT of the fewest SECONDS, the least");
        TandemRide x = both(20, 20, ".");
        oneBeatOf(x, 0, 0, 4, 61, 0, 0);
        oneBeatOf(x, 4, 4, 4, 1, 24, 24);
        oneBeatOf(x, 1, 0, 7, 60 / 21 + 1, 0, 0);
        oneBeatOf(x, 0, 1, 7, 60 / 21 + 1, 0, 0);
        oneBeatOf(x, 3, 0, 7, 1, 0, 0);
        oneBeatOf(x, 4, 0, 5, 1, 16, 0);
        x.rider(0, 20, 4, 9, 0);
        x.rider(1, 20, 10, 9, 0);
        Check.takeWay(x, "D");
        oneBeatOf(x, 4, 4, 4, 1, 0, 48);
        oneBeatOf(x, 0, 1, 10, 1, 0, 0);
        CHECK.promise("16 the BEATS 4 and 10 themselves");
        x = both(1, 1, ".");
        x.rider(0, 1, 10, 9, 0);
        x.rider(1, 1, 10, 9, 0);
        oneBeatOf(x, 1, 1, 10, 21, 0, 0);
        x.rider(0, 1, 4, 9, 0);
        x.rider(1, 1, 4, 9, 0);
        oneBeatOf(x, 1, 1, 4, 21, 0, 0);
        x.rider(1, 1, 10, 9, 0);
        oneBeatOf(x, 1, 1, 4, 31, 0, 1);
        oneBeatOf(x, 1, 4, 10, 60 / 5 + 1, 1, 0);
    }

    private static void oneBeatWithoutALook() {
        CHECK.promise("16 WIND and HEAT not being looked at, TREADS of all 24 stretches");
        TandemRide x = both(20, 20, "D".repeat(24));
        x.rider(0, 20, 4, 1, 0);
        x.rider(1, 20, 10, 1, 0);
        x.set(0, 5);
        oneBeatOf(x, 4, 4, 4, 24, 0, 24 * 48);
        CHECK.promise("16 no PLAN is needed, none is looked at");
        x.say('x');
        oneBeatOf(x, 4, 4, 4, 24, 0, 24 * 48);
        CHECK.promise("16 the SECONDS of all stretches decide, not those of the first or of the last");
        x = both(20, 20, "D");
        oneBeatOf(x, 4, 4, 4, 1, 24, 24);
        Check.takeWay(x, "DU");
        oneBeatOf(x, 4, 4, 5, 3, 32, 32);
        Check.takeWay(x, "UD");
        oneBeatOf(x, 4, 4, 5, 3, 32, 32);
    }
}
