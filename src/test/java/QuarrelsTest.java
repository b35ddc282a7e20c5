/** Promises 24 to 33: quarrels, slips, times, years, images, what is told. */
public final class QuarrelsTest {
    private static final Check CHECK = new Check();
    private static final long GONE = -1000000000000000000L;

    public static void main(String[] args) {
        stateAheadOfAll();
        quarrel();
        home();
        mean();
        time();
        forget();
        strong();
        year();
        images();
        told();
        CHECK.end("QuarrelsTest");
    }

    private static void due(String call, long got, long want) {
        CHECK.due(call, got, want);
    }

    private static TandemRide two(String way) {
        TandemRide x = new TandemRide();
        x.rider(0, 5, 5, 9, 30);
        x.rider(1, 10, 10, 9, 50);
        Check.takeWay(x, way);
        return x;
    }

    private static void stateAheadOfAll() {
        CHECK.promise("24 to 26, 30, STATE");
        TandemRide x = new TandemRide();
        for (int there = 0; there < 3; there++) {
            if (there == 1) x.rider(0, 5, 5, 5, 5);
            if (there == 2) x.leave(0);
            if (there == 2) x.rider(1, 5, 5, 5, 5);
            due("quarrel(100)", x.quarrel(100), -3);
            due("home(11, -1, 2)", x.home(11, -1, 2), GONE - 3);
            due("mean(11, 2)", x.mean(11, 2), GONE - 3);
            due("year(-1, 0, 3)", x.year(-1, 0, 3), -3);
        }
    }

    private static void quarrelOf(TandemRide x, String plan, int days, int quarrel) {
        Check.pad(x, plan);
        due("quarrel(" + days + ") of " + plan, x.quarrel(days), quarrel);
    }

    private static void quarrel() {
        CHECK.promise("24 quarrel");
        TandemRide x = two(".");
        quarrelOf(x, "11b", 0, 0);
        quarrelOf(x, "11b", 1, 70);
        quarrelOf(x, "11b", 14, 980);
        quarrelOf(x, "11b", 15, 999);
        quarrelOf(x, "11b", 99, 999);
        x.set(2, 50);
        quarrelOf(x, "11b", 3, 90);
        x.set(2, 0);
        quarrelOf(x, "11b", 3, 240);
        x.set(2, 10);
        quarrelOf(x, "10b", 1, 40);
        quarrelOf(x, "01b", 1, 20);
        quarrelOf(x, "00b", 99, 0);
        x.rider(0, 5, 10, 9, 30);
        x.rider(1, 10, 10, 9, 30);
        x.set(2, 0);
        quarrelOf(x, "11g", 1, 59);
        x.rider(0, 5, 10, 9, 0);
        x.rider(1, 10, 10, 9, 0);
        quarrelOf(x, "11g", 9, 0);
        x.rider(0, 5, 10, 9, 50);
        x.rider(1, 10, 10, 9, 50);
        quarrelOf(x, "00g", 9, 0);
        due("quarrel(-1)", x.quarrel(-1), -2);
        due("quarrel(100)", x.quarrel(100), -2);
        quarrelOf(x, "11", 1, -5);
        quarrelOf(x, "11", 100, -2);
        x.rider(1, 10, 10, 1, 20);
        quarrelOf(x, "14g", 1, -5);
    }

    private static void homeBy(TandemRide x, int t, int seconds, long upper, long lower) {
        due("home(" + t + ", " + seconds + ", 0)", x.home(t, seconds, 0), upper);
        due("home(" + t + ", " + seconds + ", 1)", x.home(t, seconds, 1), lower);
    }

    private static void home() {
        CHECK.promise("25 home");
        TandemRide x = two("cc");
        Check.pad(x, "11b11b");
        homeBy(x, 3, 0, 0, 1);
        homeBy(x, 3, 11, 0, 1);
        homeBy(x, 3, 12, 49, 100);
        homeBy(x, 3, 16, 49, 100);
        homeBy(x, 3, 17, 91, 100);
        homeBy(x, 3, 21, 91, 100);
        homeBy(x, 3, 22, 1, 1);
        homeBy(x, 3, 9999, 1, 1);
        homeBy(x, 0, 12, 1, 1);
        homeBy(x, 10, 21, 0, 1);
        homeBy(x, 10, 22, 1, 1);
        homeBy(x, 5, 17, 3, 4);
        Check.pad(x, "11bR11b");
        homeBy(x, 5, 17, 0, 1);
        homeBy(x, 5, 77, 3, 4);
        int[][] outside = {{-1, 0, 0}, {11, 0, 0}, {0, -1, 0}, {0, 10000, 0}, {0, 0, -1}, {0, 0, 2}};
        for (int[] v : outside) due("home(..)", x.home(v[0], v[1], v[2]), GONE - 2);
        Check.pad(x, "11b");
        homeBy(x, 3, 12, GONE - 5, GONE - 5);
        x = two(".~u");
        Check.pad(x, "11b11b11b");
        homeBy(x, 5, 22, 0, 1);
        homeBy(x, 5, 23, 1, 1);
        corners(12, 13841287201L, 1000000000000L);
        corners(13, GONE - 4, GONE - 4);
        corners(24, GONE - 4, GONE - 4);
        x = two("ccccccccccccc");
        homeBy(x, 3, 6, GONE - 5, GONE - 5);
        due("home(11, 0, 0) of 13 corners", x.home(11, 0, 0), GONE - 2);
    }

    private static void corners(int many, long upper, long lower) {
        TandemRide x = two("c".repeat(many));
        Check.pad(x, "11b".repeat(many));
        homeBy(x, 3, 6 * many, upper, lower);
    }

    private static void meanBy(TandemRide x, int t, long upper, long lower) {
        due("mean(" + t + ", 0)", x.mean(t, 0), upper);
        due("mean(" + t + ", 1)", x.mean(t, 1), lower);
    }

    private static void mean() {
        CHECK.promise("26 mean");
        TandemRide x = two("cc.");
        Check.pad(x, "11b11b11b");
        meanBy(x, 0, 18, 1);
        meanBy(x, 1, 19, 1);
        meanBy(x, 3, 21, 1);
        meanBy(x, 10, 28, 1);
        due("mean(-1, 0)", x.mean(-1, 0), GONE - 2);
        due("mean(11, 0)", x.mean(11, 0), GONE - 2);
        due("mean(0, -1)", x.mean(0, -1), GONE - 2);
        due("mean(0, 2)", x.mean(0, 2), GONE - 2);
        x = two("c~");
        Check.pad(x, "11bR11b");
        meanBy(x, 1, 145, 2);
        x.say('R');
        meanBy(x, 1, GONE - 5, GONE - 5);
        x = two("c".repeat(24));
        Check.pad(x, "11b".repeat(24));
        meanBy(x, 7, 144 + 84, 1);
    }

    private static void time() {
        CHECK.promise("27 time");
        TandemRide x = two(".");
        due("time(0, 0, 0, 1)", x.time(0, 0, 0, 1), 1);
        due("time(1, 4, 4, 300)", x.time(1, 4, 4, 300), 2);
        int[][] outside = {{-1, 0, 1}, {5, 0, 1}, {0, -1, 1}, {0, 5, 1}, {0, 0, 0}, {0, 0, 301}};
        for (int[] v : outside) due("time(0, ..)", x.time(0, v[0], v[1], v[2]), -2);
        due("time(2, 5, 5, 0)", x.time(2, 5, 5, 0), -1);
        due("time(-1, 0, 0, 1)", x.time(-1, 0, 0, 1), -1);
        due("time(4, 0, 0, 1)", x.time(4, 0, 0, 1), -1);
        for (int i = 3; i <= 6; i++) due("time, the " + i + "th", x.time(0, 1, 2, 3), i);
        due("time, the 7th", x.time(1, 1, 2, 3), -4);
        due("time(0, 5, 2, 3) when it is full", x.time(0, 5, 2, 3), -2);
        due("time(2, 1, 2, 3) when it is full", x.time(2, 1, 2, 3), -1);
        due("told(8)", x.told(8), 6);
    }

    private static void forget() {
        CHECK.promise("28 forget");
        TandemRide x = two(".");
        due("forget()", x.forget(), 0);
        x.time(0, 0, 1, 1);
        x.time(0, 0, 1, 2);
        due("strong(0, 0)", x.strong(0, 0), 0);
        due("forget()", x.forget(), 2);
        due("forget()", x.forget(), 0);
        due("told(8)", x.told(8), 0);
        due("strong(0, 0)", x.strong(0, 0), 20);
        due("time(0, 0, 1, 1)", x.time(0, 0, 1, 1), 1);
    }

    private static void strongIs(TandemRide x, int rider, int... want) {
        for (int what = 0; what < 3; what++) {
            due("strong(" + rider + ", " + what + ")", x.strong(rider, what), want[what]);
        }
    }

    private static void strong() {
        CHECK.promise("29 strong");
        TandemRide x = two(".");
        strongIs(x, 0, 20, 1, 20);
        x.time(0, 1, 2, 5);
        strongIs(x, 0, 2, 6, 7);
        strongIs(x, 1, 20, 1, 20);
        x.time(1, 1, 2, 7);
        strongIs(x, 1, 1, 4, 4);
        x.time(0, 3, 0, 16);
        strongIs(x, 0, 2, 6, 7);
        x.time(0, 2, 2, 9);
        strongIs(x, 0, 1, 7, 7);
        x.rider(0, 1, 4, 1, 0);
        strongIs(x, 0, 1, 7, 7);
        x.time(0, 0, 0, 30);
        strongIs(x, 0, 0, -6, -6);
        due("strong(0, -1)", x.strong(0, -1), -2);
        due("strong(0, 3)", x.strong(0, 3), -2);
        due("strong(2, 3)", x.strong(2, 3), -1);
        due("strong(-1, 0)", x.strong(-1, 0), -1);
        due("strong(4, 0)", x.strong(4, 0), -1);
    }

    private static void year() {
        CHECK.promise("30 year");
        TandemRide x = two(".");
        due("year(0, 1, 0)", x.year(0, 1, 0), 2);
        due("year(0, 4, 0)", x.year(0, 4, 0), 9);
        due("year(0, 4, 1)", x.year(0, 4, 1), 2);
        due("year(0, 4, 2)", x.year(0, 4, 2), 3);
        Check.takeWay(x, "..");
        due("year(0, 4, 0)", x.year(0, 4, 0), 18);
        int[][] outside = {{-1, 1, 0}, {10000, 1, 0}, {0, 0, 0}, {0, 100, 0}, {0, 1, -1}, {0, 1, 3}};
        for (int[] v : outside) due("year(..)", x.year(v[0], v[1], v[2]), -2);
        x.rider(0, 5, 5, 1, 0);
        x.set(0, 5);
        Check.takeWay(x, "..DDDDDD");
        CHECK.due("year(9999, 99, 0) without a look at wind and heat", x.year(9999, 99, 0) > 0);
    }

    private static void images() {
        CHECK.promise("31, 32 image, restore");
        TandemRide x = new TandemRide();
        due("image(-1)", x.image(-1), -2);
        due("image(2)", x.image(2), -2);
        due("restore(-1)", x.restore(-1), -2);
        due("restore(2)", x.restore(2), -2);
        due("restore(1)", x.restore(1), -3);
        due("image(1) of a new object", x.image(1), 1);
        due("restore(0)", x.restore(0), -3);
        x.rider(0, 5, 5, 9, 30);
        x.rider(3, 10, 10, 8, 50);
        x.seat(3, 0);
        x.set(0, 5);
        x.set(1, 6);
        x.set(2, 7);
        Check.takeWay(x, "uUd");
        x.time(3, 1, 2, 5);
        int[] before = all(x);
        due("image(0)", x.image(0), 1);
        Check.say(x, "ccc~");
        x.leave(3);
        x.rider(0, 6, 6, 6, 6);
        x.rider(1, 7, 7, 7, 7);
        x.seat(0, 1);
        x.set(0, 8);
        x.set(1, 9);
        x.set(2, 10);
        x.way();
        x.forget();
        x.time(1, 1, 1, 1);
        x.time(1, 1, 1, 1);
        Check.say(x, "xy");
        due("restore(0)", x.restore(0), 1);
        same(before, all(x), 2);
        due("strong(3, 0)", x.strong(3, 0), 2);
        due("restore(1)", x.restore(1), 1);
        same(all(new TandemRide()), all(x), 2);
        due("restore(0) once more", x.restore(0), 1);
        same(before, all(x), 2);
        x.rider(0, 20, 4, 1, 0);
        due("restore(0), whatever came behind the last one", x.restore(0), 1);
        same(before, all(x), 2);
        due("image(1) anew", x.image(1), 1);
        x.leave(0);
        due("restore(1)", x.restore(1), 1);
        same(before, all(x), 2);
    }

    /** What is told of all that stands, by few enough calls that an object can be asked seven times. */
    private static int[] all(TandemRide x) {
        int[] all = new int[31];
        for (int i = 0; i < 9; i++) all[i] = x.told(i);
        for (int i = 0; i < 16; i++) all[9 + i] = x.told(10 * (1 + i / 4) + i % 4);
        for (int i = 0; i < 6; i++) all[25 + i] = x.told(100 + i);
        return all;
    }

    private static void same(int[] want, int[] got, int signs) {
        due("told(0)", got[0], signs);
        for (int i = 1; i < want.length; i++) due("what is told, place " + i, got[i], want[i]);
    }

    private static void told() {
        CHECK.promise("33 told");
        TandemRide x = two("cu");
        x.rider(3, 1, 4, 2, 3);
        x.seat(3, 1);
        x.say('R');
        x.time(0, 0, 0, 31);
        int[] from0 = {1, 11, 3, 1, 10, 60, 10, 2, 1, -2, 5, 5, 9, 30, -2, -2, -2, -2, -2, -2, 10, 10, 9, 50, -2};
        for (int what = 0; what < from0.length; what++) due("told(" + what + ")", x.told(what), from0[what]);
        for (int what = 24; what < 40; what++) due("told(" + what + ")", x.told(what), -2);
        int[] from40 = {1, 4, 2, 3, -2};
        for (int i = 0; i < from40.length; i++) due("told(" + (40 + i) + ")", x.told(40 + i), from40[i]);
        for (int what = 44; what < 100; what++) due("told(" + what + ")", x.told(what), -2);
        due("told(100)", x.told(100), 'c');
        due("told(101)", x.told(101), 'u');
        due("told(102)", x.told(102), -2);
        due("told(-1)", x.told(-1), -2);
        due("told(MIN)", x.told(Integer.MIN_VALUE), -2);
        due("told(MAX)", x.told(Integer.MAX_VALUE), -2);
    }
}
