/**
 * Promises 17 to 23 at their edges: the weakest and the strongest alone, cranks that come round, a knee as sore as K,
 * 12 and 13 corners and bumps, rests ahead of the second and the 24th stretch, nobody, one and four to choose from.
 */
public final class CrankEdgesTest {
    private static final int OUTSIDE = -2, FULL = -4, NO = -5, NONE = -6;
    private static final Check CHECK = new Check();

    public static void main(String[] args) {
        hardIsHalf();
        aloneWithoutALook();
        noSortIsQuicker();
        cranksComeRound();
        cranksOfOne();
        evenestIsTheFirst();
        asSoreAsK();
        comesAndGoes();
        leastBits();
        twelveAndThirteen();
        firstRest();
        noRestHelps();
        restWithoutPause();
        whoIsThere();
        leastPair();
        CHECK.end("CrankEdgesTest");
    }

    private static void due(String call, long got, long want) {
        CHECK.due(call, got, want);
    }

    // ---- singles

    private static void hardIsHalf() {
        String[] ways = {".", "u", "U", "d", "D", "c", "~"};
        int[] half = {30, 60, 120, 15, 10, 30, 30};
        CHECK.promise("17 HARD is half; with EFFORT 0 by 1 alone");
        for (int i = 0; i < 7; i++) due("single(0, 0) on " + ways[i], Made.two(ways[i]).single(0, 0), half[i] + 1);
        CHECK.promise("17 the weakest, the strongest");
        TandemRide x = Made.four(20, 10);
        x.rider(3, 1, 4, 1, 0);
        for (int i = 0; i < 7; i++) {
            Check.takeWay(x, ways[i]);
            for (int e = 0; e <= 4; e++) {
                due("single(3, " + e + ") on " + ways[i], x.single(3, e), half[i] / (1 + e) + 1);
                due("single(2, " + e + ") on " + ways[i], x.single(2, e), half[i] / (1 + 20 * e) + 1);
            }
        }
        CHECK.promise("17 cut: just at, just behind what divides half of HARD");
        x = Made.two(".");
        int[][] cuts = {{14, 3}, {15, 2}, {9, 4}, {10, 3}};
        for (int[] cut : cuts) {
            x.rider(0, cut[0], 5, 9, 0);
            due("single(0, 1) by " + cut[0], x.single(0, 1), cut[1]);
        }
        x.rider(0, 15, 5, 9, 0);
        due("single(0, 2) by 15", x.single(0, 2), 1);
        x.rider(0, 7, 5, 9, 0);
        Check.takeWay(x, "d");
        due("single(0, 2) by 7 on d", x.single(0, 2), 2);
        due("single(0, 3) by 7 on d", x.single(0, 3), 1);
    }

    private static void aloneWithoutALook() {
        CHECK.promise("17 of THE WAY, 1 and 24 stretches, whoever is seated, whatever the WIND");
        TandemRide x = new TandemRide();
        x.rider(3, 1, 10, 1, 0);
        due("single(3, 4)", x.single(3, 4), 7);
        Check.takeWay(x, "D".repeat(24));
        x.set(0, 5);
        due("single(3, 4)", x.single(3, 4), 24 * 3);
        due("single(3, 0)", x.single(3, 0), 24 * 11);
    }

    private static void noSortIsQuicker() {
        CHECK.promise("18 both together have at most twice the TREADS of the stronger, and HARD is not half: none");
        int[][] pairs = {{1, 1}, {1, 20}, {20, 1}, {20, 20}, {7, 13}};
        for (int[] pair : pairs) {
            TandemRide x = new TandemRide();
            x.rider(0, pair[0], 7, 1, 0);
            x.rider(1, pair[1], 7, 1, 0);
            for (int e = 0; e <= 4; e++) due("sorts(" + e + ")", x.sorts(e), 0);
            x.rider(1, pair[1], 10, 9, 50);
            x.rider(0, pair[0], 4, 9, 50);
            for (int e = 0; e <= 4; e++) due("sorts(" + e + ") of other BEATS", x.sorts(e), 0);
        }
    }

    // ---- cranks

    private static void cranksComeRound() {
        CHECK.promise("19 p 0 to 11: k and p, left over by 12");
        TandemRide x = Made.four(1, 4);
        int[] byP = {12, 10, 8, 6, 4, 2, 0, 2, 4, 6, 8, 10};
        for (int p = 0; p < 12; p++) {
            due("uneven(1, 1, " + p + ")", x.uneven(1, 1, p), byP[p]);
            due("uneven(4, 4, " + p + ")", x.uneven(4, 4, p), 4 * byP[p]);
        }
        due("uneven(1, 1, 12)", x.uneven(1, 1, 12), OUTSIDE);
        CHECK.promise("19 the most and the least STRENGTHS by the most EFFORTS");
        x = Made.four(20, 4);
        for (int p = 0; p < 12; p++) due("uneven(4, 4, " + p + ")", x.uneven(4, 4, p), 80 * byP[p]);
        x.rider(1, 1, 4, 1, 0);
        for (int p = 0; p < 12; p++) {
            int near = Math.abs(p - 6);
            due("uneven(4, 1, " + p + ")", x.uneven(4, 1, p), 480 - 6 + 2 * near);
            due("uneven(1, 4, " + p + ")", x.uneven(1, 4, p), 120 - 24 + 8 * near);
        }
    }

    private static void cranksOfOne() {
        CHECK.promise("19 if one has EFFORT 0 all p are as uneven, if both have, nothing is");
        TandemRide x = Made.four(3, 4);
        for (int p = 0; p < 12; p++) {
            due("uneven(4, 0, " + p + ")", x.uneven(4, 0, p), 72);
            due("uneven(0, 4, " + p + ")", x.uneven(0, 4, p), 72);
            due("uneven(0, 0, " + p + ")", x.uneven(0, 0, p), 0);
        }
        CHECK.promise("19 FRONT and BACK as they sit");
        x.rider(2, 1, 4, 1, 0);
        x.rider(3, 5, 4, 1, 0);
        x.seat(2, 3);
        due("uneven(4, 0, 0)", x.uneven(4, 0, 0), 24);
        due("uneven(0, 4, 0)", x.uneven(0, 4, 0), 120);
    }

    private static void evenestIsTheFirst() {
        CHECK.promise("20 the p of the least, the first");
        TandemRide x = Made.four(3, 4);
        for (int f = 0; f <= 4; f++) {
            for (int b = 0; b <= 4; b++) {
                due("evenest(" + f + ", " + b + ")", x.evenest(f, b), f == 0 || b == 0 ? 0 : 6);
            }
        }
    }

    // ---- calls

    private static void callsOf(String way, int k, int many, int bits) {
        TandemRide x = new TandemRide();
        Check.takeWay(x, way);
        due("calls(" + k + ", 0) of " + way, x.calls(k, 0), many);
        due("calls(" + k + ", 1) of " + way, x.calls(k, 1), bits);
    }

    private static void asSoreAsK() {
        CHECK.promise("21 at a corner 3, at a bump 2; as sore as K, never above");
        callsOf("c", 3, 0, 0);
        callsOf("c", 2, 1, 1);
        callsOf("~", 2, 0, 0);
        callsOf("~", 1, 1, 1);
        callsOf("c~", 5, 0, 0);
        callsOf("c~", 4, 1, 1);
        callsOf("c~", 2, 1, 1);
        callsOf("~c", 3, 1, 1);
        callsOf("~c", 2, 1, 2);
        callsOf("~c", 1, 2, 3);
        CHECK.promise("21 K 0 and K 20");
        callsOf("c", 0, 1, 1);
        callsOf("~", 0, 1, 1);
        callsOf(".uUdD", 0, 0, 0);
        callsOf("~~~~~~~~~~", 20, 0, 0);
        callsOf("~~~~~~~~~~", 19, 1, 1);
        callsOf("~~~~~~~~~~~", 20, 1, 1);
        callsOf("cccccc~", 20, 0, 0);
        callsOf("ccccccc", 20, 1, 1);
        callsOf("c".repeat(12), 20, 6, 63);
        callsOf("c".repeat(12), 18, 6, 63);
        callsOf("c".repeat(12), 17, 7, 127);
    }

    private static void comesAndGoes() {
        CHECK.promise("21 ahead of all others 1 goes");
        for (char c : ".uUdD".toCharArray()) {
            callsOf("c" + c + "c", 5, 0, 0);
            callsOf("c" + c + "c", 4, 1, 1);
            callsOf("c" + c + c + c + "c", 3, 0, 0);
            callsOf("c" + c + c + "c", 3, 1, 1);
        }
        CHECK.promise("21 0 at least");
        callsOf(".c", 2, 1, 2);
        callsOf("~....~", 1, 2, 33);
        callsOf("~....c", 2, 1, 32);
        CHECK.promise("21 where it is called nothing goes");
        callsOf("ccc", 5, 2, 3);
        callsOf("c~c", 5, 1, 1);
        callsOf("c~~~c", 7, 2, 3);
        CHECK.promise("21 at corners and bumps nothing goes, called or not");
        callsOf("c~c", 7, 1, 1);
        callsOf("c~c", 8, 0, 0);
        CHECK.promise("21 no RIDER, no PLAN is needed");
        callsOf("uUdDc~.", 5, 0, 0);
    }

    private static void leastBits() {
        CHECK.promise("21 least as bits of as few");
        callsOf("cc", 3, 1, 1);
        callsOf("ccc", 3, 2, 3);
        callsOf("c..~~", 5, 0, 0);
        callsOf("c..~~", 4, 1, 1);
        callsOf("c.~~", 4, 1, 1);
        callsOf("~.cc", 4, 1, 4);
        callsOf("c...c~c", 4, 2, 48);
        CHECK.promise("21 the bits of the last of 24 stretches");
        callsOf(".".repeat(23) + "c", 2, 1, 1 << 23);
        callsOf(".".repeat(23) + "c", 3, 0, 0);
        callsOf(".".repeat(12) + "c~".repeat(6), 0, 12, 0xFFF000);
    }

    private static void twelveAndThirteen() {
        CHECK.promise("21 FULL: more than 12 corners and bumps, together");
        String[] twelve = {"c".repeat(12), "~".repeat(12), "c~".repeat(6), "c".repeat(12) + "u".repeat(12)};
        for (String way : twelve) callsOf(way, 0, 12, 4095);
        String[] more = {"c".repeat(13), "~".repeat(13), "c~".repeat(6) + "c", "u".repeat(11) + "~c".repeat(6) + "~",
            "c".repeat(24), "~".repeat(24)};
        for (String way : more) {
            callsOf(way, 0, FULL, FULL);
            callsOf(way, 20, FULL, FULL);
        }
    }

    // ---- the rest that is worth most

    private static void worthOf(TandemRide x, String plan, int want) {
        Check.pad(x, plan);
        due("worth() of " + plan, x.worth(), want);
    }

    private static void firstRest() {
        CHECK.promise("22 the first such stretch");
        TandemRide x = Made.two("....");
        x.rider(0, 5, 5, 2, 0);
        worthOf(x, "22d22d22d22d", NONE);
        worthOf(x, "40d22d22d40d", 1);
        worthOf(x, "22d22d40d40d", 3);
        worthOf(x, "30d20d30d30d", 1);
        worthOf(x, "30d30d30d30d", 2);
        worthOf(x, "30d30d30d20d", 1);
        CHECK.promise("22 for WIND of BACK, for HEAT, for two reasons");
        x.rider(0, 5, 5, 9, 0);
        x.rider(1, 5, 5, 1, 0);
        worthOf(x, "03d03d02d02d", 1);
        worthOf(x, "02d03d02d03d", 2);
        x.set(0, 5);
        Check.takeWay(x, "D.D.");
        worthOf(x, "22d22d22d22d", 1);
        worthOf(x, "23d22d23d22d", 1);
        Check.takeWay(x, "Du.D");
        worthOf(x, "22d23d23d22d", 2);
        CHECK.promise("22 ahead of the 24th stretch");
        x = Made.two(".".repeat(22) + "DD");
        x.set(0, 5);
        worthOf(x, "22d".repeat(24), 23);
        x.set(0, 10);
        worthOf(x, "22d".repeat(24), NONE);
    }

    private static void noRestHelps() {
        CHECK.promise("22 NONE: no one does");
        TandemRide x = Made.two("..");
        x.rider(0, 5, 5, 1, 0);
        worthOf(x, "40d22d", NONE);
        worthOf(x, "22d40d", NONE);
        Check.takeWay(x, "DDD");
        x.set(0, 9);
        worthOf(x, "22d22d22d", NONE);
        x.set(0, 10);
        worthOf(x, "22d22d22d", 1);
        x.set(0, 15);
        worthOf(x, "22d22d22d", NONE);
        CHECK.promise("22 NONE: of one stretch none ever helps");
        Check.takeWay(x, "d");
        worthOf(x, "40d", NONE);
        worthOf(x, "30d", NONE);
        CHECK.promise("22 NO: some R, though the PLAN can be or can not be");
        worthOf(x, "R30d", NO);
        worthOf(x, "R40d", NO);
        worthOf(x, "30", NO);
    }

    private static void restWithoutPause() {
        CHECK.promise("22 whatever PAUSE is");
        int[] pauses = {0, 99};
        for (int pause : pauses) {
            TandemRide x = Made.two("DDD");
            x.set(1, pause);
            worthOf(x, "22d22d22d", 1);
        }
    }

    // ---- who with whom

    private static void pairIs(TandemRide x, int pair, int seconds) {
        due("bestPair(0)", x.bestPair(0), pair);
        due("bestPair(1)", x.bestPair(1), seconds);
    }

    private static void whoIsThere() {
        CHECK.promise("23 NONE: nobody, or one alone");
        TandemRide x = new TandemRide();
        pairIs(x, NONE, NONE);
        for (int r = 0; r < 4; r++) {
            x = new TandemRide();
            x.rider(r, 5, 5, 5, 5);
            pairIs(x, NONE, NONE);
        }
        CHECK.promise("23 each two who are there, seated or not");
        for (int f = 0; f < 4; f++) {
            for (int b = f + 1; b < 4; b++) {
                x = new TandemRide();
                x.rider(b, 1, 7, 9, 0);
                x.rider(f, 1, 7, 9, 0);
                pairIs(x, 10 * f + b, 60 / 9 + 1);
                x.leave(f);
                pairIs(x, NONE, NONE);
            }
        }
    }

    private static void leastPair() {
        CHECK.promise("23 the least of those who are as soon");
        TandemRide x = Made.four(1, 7);
        pairIs(x, 1, 7);
        x.leave(0);
        pairIs(x, 12, 7);
        x.leave(1);
        pairIs(x, 23, 7);
        CHECK.promise("23 the SOONEST, wherever they sit");
        for (int f = 0; f < 4; f++) {
            for (int b = f + 1; b < 4; b++) {
                x = Made.four(1, 7);
                x.rider(f, 3, 7, 9, 0);
                x.rider(b, 3, 7, 9, 0);
                x.seat(3 - f, f);
                pairIs(x, 10 * f + b, 60 / 25 + 1);
            }
        }
        CHECK.promise("23 its SECONDS with rests, by HOTTEST and PAUSE");
        x = Made.four(20, 7);
        Check.takeWay(x, "DD");
        x.set(0, 5);
        x.set(1, 99);
        pairIs(x, 1, 101);
        CHECK.promise("23 who is seated does not matter");
        x.seat(3, 2);
        pairIs(x, 1, 101);
        due("told(2)", x.told(2), 3);
    }
}
