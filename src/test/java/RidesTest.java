/** Promises 11 to 16: judging, riding, shares, the unseen, the soonest plan, one beat. */
public final class RidesTest {
    private static final Check CHECK = new Check();
    private static final long GONE = -1000000000000000000L;

    public static void main(String[] args) {
        stateAheadOfAll();
        judge();
        ridden();
        share();
        unseen();
        soonest();
        oneBeat();
        CHECK.end("RidesTest");
    }

    private static void due(String call, long got, long want) {
        CHECK.due(call, got, want);
    }

    /** FRONT treads 5 at its beat 5, BACK 10 at its beat 10. */
    private static TandemRide two(String way) {
        TandemRide x = new TandemRide();
        x.rider(0, 5, 5, 9, 30);
        x.rider(1, 10, 10, 9, 50);
        Check.takeWay(x, way);
        return x;
    }

    private static void stateAheadOfAll() {
        CHECK.promise("11 to 16, STATE");
        TandemRide x = new TandemRide();
        for (int there = 0; there < 3; there++) {
            if (there == 1) x.rider(0, 5, 5, 5, 5);
            if (there == 2) x.leave(0);
            if (there == 2) x.rider(1, 5, 5, 5, 5);
            due("judge(2)", x.judge(2), -3);
            due("ridden(5, 5)", x.ridden(5, 5), -3);
            due("share(2)", x.share(2), GONE - 3);
            due("unseen()", x.unseen(), -3);
            due("soonest(2)", x.soonest(2), -3);
            due("oneBeat(5, 5, 5)", x.oneBeat(5, 5, 5), -3);
        }
    }

    private static void judged(TandemRide x, String plan, int stretch, int reason) {
        Check.pad(x, plan);
        due("judge(0) of " + plan, x.judge(0), stretch);
        due("judge(1) of " + plan, x.judge(1), reason);
    }

    private static void judge() {
        CHECK.promise("11 judge");
        TandemRide x = new TandemRide();
        x.rider(0, 7, 6, 2, 0);
        x.rider(1, 10, 8, 1, 0);
        Check.takeWay(x, "...");
        judged(x, "40a00a00a", -6, -6);
        judged(x, "40a30a40a", 1, 1);
        judged(x, "33a03a44a", 1, 2);
        judged(x, "04a00a00a", 0, 2);
        judged(x, "40a10a30a", -6, -6);
        judged(x, "40a10a40a", 2, 1);
        judged(x, "30a00a40a", -6, -6);
        judged(x, "40aR40aR40a", -6, -6);
        due("judge(-1)", x.judge(-1), -2);
        due("judge(2)", x.judge(2), -2);
        Check.pad(x, "40a");
        due("judge(0) of a plan too short", x.judge(0), -5);
        due("judge(2) of a plan too short", x.judge(2), -2);
        x.rider(0, 7, 6, 1, 0);
        judged(x, "44a00a00a", 0, 1);
        Check.takeWay(x, "Dd.D");
        x.set(0, 5);
        judged(x, "00a00a00a00a", 1, 3);
        judged(x, "00a04a00a00a", 1, 2);
        judged(x, "00a44a00a00a", 1, 1);
        judged(x, "00aR00a00a00a", 3, 3);
        x.set(0, 6);
        judged(x, "00aR00a00a00a", -6, -6);
        x.set(0, 11);
        judged(x, "00a00a00a00a", -6, -6);
    }

    private static void rode(TandemRide x, int m, int seconds, int windFront, int windBack, int heat) {
        int[] want = {seconds, windFront, windBack, heat};
        for (int what = 0; what < 4; what++) due("ridden(" + m + ", " + what + ")", x.ridden(m, what), want[what]);
    }

    private static void ridden() {
        CHECK.promise("12 ridden");
        TandemRide x = two("uUd");
        Check.pad(x, "11bR22g34d");
        rode(x, 0, 11, 9, 9, 0);
        rode(x, 1, 81, 9, 9, 0);
        rode(x, 2, 82, 8, 7, 2);
        rode(x, -1, 82, 8, 7, 2);
        x.set(1, 7);
        rode(x, 1, 28, 9, 9, 0);
        due("ridden(-2, 0)", x.ridden(-2, 0), -2);
        due("ridden(3, 0)", x.ridden(3, 0), -2);
        due("ridden(0, -1)", x.ridden(0, -1), -2);
        due("ridden(0, 4)", x.ridden(0, 4), -2);
        x.say('.');
        due("ridden(0, 0) of a plan with a fault", x.ridden(0, 0), -5);
        due("ridden(3, 0) of a plan with a fault", x.ridden(3, 0), -2);
        x = two("D.d..c~");
        Check.pad(x, "44a44a00a10a01a44a00a");
        int[] heat = {5, 4, 6, 5, 4, 3, 2};
        int[] windFront = {7, 5, 7, 8, 9, 7, 9};
        int[] windBack = {7, 5, 7, 9, 9, 7, 9};
        for (int m = 0; m < 7; m++) rode(x, m, x.ridden(m, 0), windFront[m], windBack[m], heat[m]);
        Check.pad(x, "44a44a44a44a44a44a44a");
        due("ridden(0, 0) ahead of what can not be", x.ridden(0, 0), -5);
        x = two("..d.");
        Check.pad(x, "00a00a00aR00a");
        rode(x, 0, 61, 9, 9, 0);
        rode(x, 2, 153, 9, 9, 2);
        rode(x, 3, 274, 9, 9, 0);
    }

    private static void shares(TandemRide x, String plan, long upper, long lower) {
        Check.pad(x, plan);
        due("share(0) of " + plan, x.share(0), upper);
        due("share(1) of " + plan, x.share(1), lower);
    }

    private static void share() {
        CHECK.promise("13 share");
        TandemRide x = two("uUd");
        shares(x, "11bR22g33d", 11, 34);
        shares(x, "00a00a00a", 0, 1);
        shares(x, "01a00a00a", 0, 1);
        shares(x, "10a00a00a", 1, 1);
        shares(x, "44a44a44a", 9, 17);
        shares(x, "44a44a", GONE - 5, GONE - 5);
        due("share(-1)", x.share(-1), GONE - 2);
        due("share(2)", x.share(2), GONE - 2);
        x.rider(0, 5, 5, 1, 0);
        shares(x, "44a44a44a", GONE - 5, GONE - 5);
        x.rider(0, 1, 4, 1, 0);
        shares(x, "10a00a00a", 1, 1);
    }

    private static void unseenOf(TandemRide x, String plan, int bits) {
        Check.pad(x, plan);
        due("unseen() of " + plan, x.unseen(), bits);
    }

    private static void unseen() {
        CHECK.promise("14 unseen");
        TandemRide x = new TandemRide();
        x.rider(0, 20, 7, 9, 0);
        x.rider(1, 1, 7, 9, 0);
        Check.takeWay(x, ".d.");
        unseenOf(x, "41d41d40d", 7);
        unseenOf(x, "01d00d01d", 2);
        unseenOf(x, "11d01d11d", 5);
        unseenOf(x, "11d01d", -5);
        unseenOf(x, "44d44d44d", 7);
        unseenOf(x, "44dR44d44d", 7);
        x.rider(1, 1, 7, 4, 0);
        unseenOf(x, "44d44d44d", -5);
        Check.takeWay(x, "........................");
        StringBuilder all = new StringBuilder();
        for (int i = 0; i < 24; i++) all.append("00a");
        unseenOf(x, all.toString(), (1 << 24) - 1);
    }

    private static void soonestOf(TandemRide x, int seconds, int first) {
        due("soonest(0)", x.soonest(0), seconds);
        due("soonest(1)", x.soonest(1), first);
    }

    private static void soonest() {
        CHECK.promise("15 soonest");
        TandemRide x = new TandemRide();
        x.rider(0, 7, 6, 2, 0);
        x.rider(1, 10, 8, 3, 20);
        soonestOf(x, 1, 442);
        due("soonest(-1)", x.soonest(-1), -2);
        due("soonest(2)", x.soonest(2), -2);
        Check.takeWay(x, "..");
        soonestOf(x, 3, 34);
        x.set(1, 0);
        soonestOf(x, 2, 442);
        x.set(1, 1);
        soonestOf(x, 3, 34);
        x.set(1, 60);
        Check.takeWay(x, "DD");
        x.set(0, 5);
        soonestOf(x, 62, 24);
        x.set(0, 9);
        soonestOf(x, 62, 24);
        x.set(0, 10);
        soonestOf(x, 2, 24);
        Check.takeWay(x, "D.....D");
        x.set(0, 5);
        CHECK.due("no rest is needed", x.soonest(0) < 60);
        Check.takeWay(x, "D....D");
        CHECK.due("a rest is needed", x.soonest(0) > 60);
        x.rider(0, 1, 4, 1, 0);
        x.rider(1, 1, 4, 1, 0);
        Check.takeWay(x, "UU");
        x.set(1, 99);
        soonestOf(x, 82, 230);
    }

    private static void oneBeatOf(TandemRide x, int front, int back, int... want) {
        for (int what = 0; what < 4; what++) {
            due("oneBeat(" + front + ", " + back + ", " + what + ")", x.oneBeat(front, back, what), want[what]);
        }
    }

    private static void oneBeat() {
        CHECK.promise("16 oneBeat");
        TandemRide x = two("u.");
        oneBeatOf(x, 1, 1, 9, 15, 4, 2);
        oneBeatOf(x, 0, 0, 4, 182, 0, 0);
        oneBeatOf(x, 1, 0, 5, 32, 0, 0);
        oneBeatOf(x, 0, 1, 10, 17, 0, 0);
        int[][] outside = {{-1, 0, 0}, {5, 0, 0}, {0, -1, 0}, {0, 5, 0}, {0, 0, -1}, {0, 0, 4}};
        for (int[] v : outside) due("oneBeat(..)", x.oneBeat(v[0], v[1], v[2]), -2);
        x.rider(0, 5, 5, 1, 0);
        x.rider(1, 10, 10, 1, 0);
        Check.takeWay(x, "DDDDDDDD");
        oneBeatOf(x, 4, 4, 4, 8, 16, 192);
    }
}
