/** Promises 17 to 23: singles, sorts, cranks, calls, the rest that is worth most, the best pair. */
public final class CranksTest {
    private static final Check CHECK = new Check();

    public static void main(String[] args) {
        stateAheadOfAll();
        single();
        sorts();
        uneven();
        evenest();
        calls();
        worth();
        bestPair();
        CHECK.end("CranksTest");
    }

    private static void due(String call, long got, long want) {
        CHECK.due(call, got, want);
    }

    private static TandemRide two(String way) {
        TandemRide x = new TandemRide();
        x.rider(0, 5, 5, 9, 30);
        x.rider(1, 10, 10, 9, 50);
        Check.takeWay(x, way);
        return x;
    }

    private static void stateAheadOfAll() {
        CHECK.promise("18 to 20, 22, STATE");
        TandemRide x = new TandemRide();
        for (int there = 0; there < 3; there++) {
            if (there == 1) x.rider(0, 5, 5, 5, 5);
            if (there == 2) x.leave(0);
            if (there == 2) x.rider(1, 5, 5, 5, 5);
            due("sorts(5)", x.sorts(5), -3);
            due("uneven(5, 5, 12)", x.uneven(5, 5, 12), -3);
            due("evenest(5, 5)", x.evenest(5, 5), -3);
            due("worth()", x.worth(), -3);
        }
    }

    private static void single() {
        CHECK.promise("17 single");
        TandemRide x = two(".uUdDc~");
        due("single(0, 0)", x.single(0, 0), 302);
        due("single(0, 1)", x.single(0, 1), 55);
        due("single(1, 1)", x.single(1, 1), 3 * 3 + 6 + 11 + 2 + 1);
        due("single(1, 4)", x.single(1, 4), 3 + 2 + 3 + 1 + 1);
        due("single(2, 5)", x.single(2, 5), -1);
        due("single(-1, 0)", x.single(-1, 0), -1);
        due("single(4, 0)", x.single(4, 0), -1);
        due("single(0, -1)", x.single(0, -1), -2);
        due("single(0, 5)", x.single(0, 5), -2);
        x.rider(3, 1, 10, 1, 0);
        due("single(3, 4), whatever its wind", x.single(3, 4), 3 * 7 + 13 + 25 + 4 + 3);
    }

    /** HARD is never less than twice a single's, and both tread at most twice as much: none is ever quicker. */
    private static void sorts() {
        CHECK.promise("18 sorts");
        TandemRide x = two("...");
        int[][] likes = {{5, 10}, {7, 7}, {4, 10}};
        for (int[] like : likes) {
            for (int strength = 1; strength <= 20; strength++) {
                x.rider(0, strength, like[0], 9, 0);
                x.rider(1, 20, like[1], 9, 0);
                for (int e = 0; e <= 4; e++) due("sorts(" + e + ")", x.sorts(e), 0);
            }
        }
        due("sorts(-1)", x.sorts(-1), -2);
        due("sorts(5)", x.sorts(5), -2);
    }

    private static void uneven() {
        CHECK.promise("19 uneven");
        TandemRide x = two(".");
        due("uneven(1, 1, 0)", x.uneven(1, 1, 0), 90);
        due("uneven(1, 1, 3)", x.uneven(1, 1, 3), 60);
        due("uneven(1, 1, 5)", x.uneven(1, 1, 5), 40);
        due("uneven(1, 1, 6)", x.uneven(1, 1, 6), 30);
        due("uneven(1, 1, 9)", x.uneven(1, 1, 9), 60);
        due("uneven(1, 1, 11)", x.uneven(1, 1, 11), x.uneven(1, 1, 1));
        due("uneven(4, 2, 6)", x.uneven(4, 2, 6), 0);
        due("uneven(4, 2, 0)", x.uneven(4, 2, 0), 240);
        due("uneven(0, 0, 4)", x.uneven(0, 0, 4), 0);
        due("uneven(0, 4, 4)", x.uneven(0, 4, 4), 240);
        int[][] outside = {{-1, 0, 0}, {5, 0, 0}, {0, -1, 0}, {0, 5, 0}, {0, 0, -1}, {0, 0, 12}};
        for (int[] v : outside) due("uneven(..)", x.uneven(v[0], v[1], v[2]), -2);
    }

    private static void evenest() {
        CHECK.promise("20 evenest");
        TandemRide x = two(".");
        due("evenest(1, 1)", x.evenest(1, 1), 6);
        due("evenest(4, 2)", x.evenest(4, 2), 6);
        due("evenest(0, 4)", x.evenest(0, 4), 0);
        due("evenest(4, 0)", x.evenest(4, 0), 0);
        due("evenest(0, 0)", x.evenest(0, 0), 0);
        int[][] outside = {{-1, 0}, {5, 0}, {0, -1}, {0, 5}};
        for (int[] v : outside) due("evenest(..)", x.evenest(v[0], v[1]), -2);
    }

    private static void callsOf(TandemRide x, int k, int many, int which) {
        due("calls(" + k + ", 0)", x.calls(k, 0), many);
        due("calls(" + k + ", 1)", x.calls(k, 1), which);
    }

    private static void calls() {
        CHECK.promise("21 calls");
        TandemRide x = new TandemRide();
        callsOf(x, 0, 0, 0);
        Check.takeWay(x, "cc~.c");
        callsOf(x, 0, 4, 23);
        callsOf(x, 2, 3, 19);
        callsOf(x, 3, 3, 7);
        callsOf(x, 4, 2, 3);
        callsOf(x, 10, 0, 0);
        callsOf(x, 20, 0, 0);
        callsOf(x, 9, 1, 1);
        Check.takeWay(x, "c.d~");
        callsOf(x, 3, 0, 0);
        callsOf(x, 2, 1, 1);
        callsOf(x, 1, 2, 9);
        Check.takeWay(x, "~..............~");
        callsOf(x, 2, 0, 0);
        Check.takeWay(x, "c~c~c~c~c~c~uUdD........");
        callsOf(x, 0, 12, 4095);
        callsOf(x, 3, 11, 2047);
        Check.takeWay(x, "c~c~c~c~c~c~c");
        due("calls(0, 0) of 13", x.calls(0, 0), -4);
        due("calls(20, 1) of 13", x.calls(20, 1), -4);
        due("calls(21, 0) of 13", x.calls(21, 0), -2);
        due("calls(-1, 0)", x.calls(-1, 0), -2);
        due("calls(0, -1)", x.calls(0, -1), -2);
        due("calls(0, 2)", x.calls(0, 2), -2);
    }

    private static void worthOf(TandemRide x, String plan, int stretch) {
        Check.pad(x, plan);
        due("worth() of " + plan, x.worth(), stretch);
    }

    private static void worth() {
        CHECK.promise("22 worth");
        TandemRide x = new TandemRide();
        x.rider(0, 5, 5, 2, 0);
        x.rider(1, 5, 5, 2, 0);
        Check.takeWay(x, "...");
        worthOf(x, "40a40a00a", 1);
        worthOf(x, "40a04a30a", -6);
        worthOf(x, "40a14a40a", 1);
        worthOf(x, "30a30a30a", 1);
        worthOf(x, "40a40a40a", -6);
        worthOf(x, "00a00a00a", -6);
        worthOf(x, "22a30a44a", 2);
        worthOf(x, "40aR40a40a", -5);
        worthOf(x, "R00a00a00a", -5);
        worthOf(x, "40a40a", -5);
        worthOf(x, "", -5);
        x.rider(0, 5, 5, 1, 0);
        worthOf(x, "40a00a00a", -6);
        Check.takeWay(x, "dDdd");
        x.set(0, 7);
        worthOf(x, "00a00a00a00a", 2);
        x.set(0, 9);
        worthOf(x, "00a00a00a00a", 1);
        x.set(0, 5);
        worthOf(x, "00a00a00a00a", -6);
        x.set(0, 11);
        worthOf(x, "00a00a00a00a", -6);
    }

    private static void bestPair() {
        CHECK.promise("23 bestPair");
        TandemRide x = new TandemRide();
        due("bestPair(0) of nobody", x.bestPair(0), -6);
        due("bestPair(1) of nobody", x.bestPair(1), -6);
        due("bestPair(-1)", x.bestPair(-1), -2);
        due("bestPair(2)", x.bestPair(2), -2);
        x.rider(3, 1, 7, 1, 0);
        due("bestPair(0) of one", x.bestPair(0), -6);
        x.rider(1, 1, 7, 1, 0);
        due("bestPair(0) of two, none of them seated", x.bestPair(0), 13);
        due("bestPair(1)", x.bestPair(1), 60 / 7 + 1);
        x.rider(0, 1, 7, 1, 0);
        due("bestPair(0) of like ones", x.bestPair(0), 1);
        x.rider(2, 2, 7, 1, 0);
        due("bestPair(0), 2 being stronger", x.bestPair(0), 2);
        due("bestPair(1)", x.bestPair(1), 60 / 10 + 1);
        x.rider(3, 2, 7, 1, 0);
        due("bestPair(0), 3 being as strong", x.bestPair(0), 23);
        due("bestPair(1)", x.bestPair(1), 60 / 13 + 1);
        x.rider(3, 2, 10, 1, 0);
        due("bestPair(0), 3 liking another beat", x.bestPair(0), 23);
        due("bestPair(1)", x.bestPair(1), 60 / 11 + 1);
        x.rider(3, 1, 10, 1, 0);
        due("bestPair(0), 3 weaker, too", x.bestPair(0), 2);
        due("bestPair(1)", x.bestPair(1), 60 / 10 + 1);
        x.rider(0, 1, 7, 2, 0);
        x.rider(1, 1, 7, 3, 0);
        due("bestPair(0), those with more wind", x.bestPair(0), 2);
        due("bestPair(1)", x.bestPair(1), 60 / 11 + 1);
    }
}
