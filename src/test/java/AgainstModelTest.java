import java.util.Random;

/** Runs of calls, drawn from fixed seeds, on the class and on the model side by side. */
public final class AgainstModelTest {
    private static final int RUNS = 1800;
    private static final int SOONEST_RUNS = 1200;
    /** An object is promised for so many calls. */
    private static final int CALLS = 512;
    private static final int MOST_CALLS_OF_A_STEP = 125;
    private static final int CALLS_TO_TELL_ALL = 135;

    private final Check check;
    private final Random draws;
    private final TandemRide ride = new TandemRide();
    private final Model model = new Model();
    private int calls = 0;

    private AgainstModelTest(Check check, long seed) {
        this.check = check;
        this.draws = new Random(seed);
    }

    public static void main(String[] args) {
        Check check = new Check();
        for (int run = 0; run < RUNS && check.wrong() == 0; run++) {
            check.promise("run " + run);
            new AgainstModelTest(check, run).run();
        }
        for (int run = 0; run < SOONEST_RUNS && check.wrong() == 0; run++) {
            check.promise("soonest, run " + run);
            new AgainstModelTest(check, 10000 + run).runOfSoonest();
        }
        check.end("AgainstModelTest");
    }

    private void run() {
        boolean tidy = draws.nextInt(8) != 0;
        if (tidy) {
            for (int r = 0; r < 4; r++) {
                if (r < 2 || draws.nextBoolean()) callRider(r);
            }
        }
        while (calls + MOST_CALLS_OF_A_STEP + CALLS_TO_TELL_ALL <= CALLS && check.wrong() == 0) {
            switch (draws.nextInt(12)) {
                case 0: takeAWay(); break;
                case 1: case 2: sayAPlan(); break;
                case 3: change(); break;
                case 4: sayAnything(); break;
                default: ask(); break;
            }
            if (tidy && draws.nextInt(5) == 0) seatWhoIsMissing();
        }
        tellAll();
        check.due("calls of one object, " + calls, calls <= CALLS);
    }

    /** Short ways and little wind, where each second and each wind counts. */
    private void runOfSoonest() {
        int strongest = draws.nextInt(3) == 0 ? 20 : 3;
        int[] pauses = {0, 1, 2, 5, 20, 60, 99};
        for (int r = 0; r < 4; r++) {
            int s = 1 + draws.nextInt(strongest), l = 4 + draws.nextInt(7), w = 1 + draws.nextInt(4);
            due("rider(" + r + ", " + s + ", " + l + ", " + w + ", 0)",
                ride.rider(r, s, l, w, 0), model.rider(r, s, l, w, 0));
        }
        for (int round = 0; round < 4; round++) {
            wipe();
            for (int many = 2 + draws.nextInt(3); many > 0; many--) say(".uUdD".charAt(draws.nextInt(5)));
            due("way()", ride.way(), model.way());
            int hottest = 5 + draws.nextInt(6), pause = pauses[draws.nextInt(pauses.length)];
            int front = draws.nextInt(4), back = (front + 1 + draws.nextInt(3)) % 4;
            due("set(0, " + hottest + ")", ride.set(0, hottest), model.set(0, hottest));
            due("set(1, " + pause + ")", ride.set(1, pause), model.set(1, pause));
            due("seat(" + front + ", " + back + ")", ride.seat(front, back), model.seat(front, back));
            due("soonest(0)", ride.soonest(0), model.soonest(0));
            due("soonest(1)", ride.soonest(1), model.soonest(1));
            if (round > 0) continue;
            due("bestPair(0)", ride.bestPair(0), model.bestPair(0));
            due("bestPair(1)", ride.bestPair(1), model.bestPair(1));
        }
    }

    /** Mostly a number within the bounds, else one beside them or far off. */
    private int number(int least, int most) {
        switch (draws.nextInt(30)) {
            case 0: return least - 1;
            case 1: return most + 1;
            case 2: return draws.nextInt();
            default: return least + draws.nextInt(most - least + 1);
        }
    }

    private void takeAWay() {
        String[] grounds = {".uUdDc~", "dD", "c~", "dDdD.", ".", "U", "uUc", "cccc~."};
        String ground = grounds[draws.nextInt(grounds.length)];
        int many = draws.nextInt(4) == 0 ? 1 + draws.nextInt(24) : 1 + draws.nextInt(7);
        wipe();
        for (int i = 0; i < many; i++) say(ground.charAt(draws.nextInt(ground.length())));
        if (draws.nextInt(12) == 0) say(number(33, 126));
        fault();
        due("way()", ride.way(), model.way());
    }

    private void sayAPlan() {
        int stretches = told(7);
        int rests = draws.nextInt(4);
        int style = draws.nextInt(4);
        wipe();
        for (int i = 0; i < stretches; i++) {
            if (rests > 1 && draws.nextInt(rests) == 0) say('R');
            say('0' + effort(style));
            say('0' + effort(style));
            say('a' + draws.nextInt(7));
        }
        if (draws.nextInt(12) == 0) say(draws.nextBoolean() ? 'R' : number(33, 126));
        fault();
        askOfPlan();
    }

    private int effort(int style) {
        if (style == 0) return draws.nextInt(5);
        if (style == 1) return draws.nextInt(3);
        if (style == 2) return draws.nextInt(20) == 0 ? 4 : draws.nextInt(3);
        return draws.nextInt(10) == 0 ? 2 : 0;
    }

    private void sayAnything() {
        String signs = ".uUdDc~R01234abcdefg5hx!";
        int many = draws.nextInt(20) == 0 ? 115 : draws.nextInt(6);
        if (draws.nextBoolean()) wipe();
        for (int i = 0; i < many; i++) {
            say(draws.nextInt(10) == 0 ? number(33, 126) : signs.charAt(draws.nextInt(signs.length())));
        }
        fault();
    }

    private void wipe() {
        due("wipe()", ride.wipe(), model.wipe());
    }

    private void say(int sign) {
        due("say(" + sign + ")", ride.say(sign), model.say(sign));
    }

    private void fault() {
        for (int how = -1; how <= 2; how++) due("fault(" + how + ")", ride.fault(how), model.fault(how));
    }

    private void callRider(int r) {
        int s = number(1, 20), l = number(4, 10), w = number(1, 9), t = number(0, 50);
        due("rider(" + r + ", " + s + ", " + l + ", " + w + ", " + t + ")",
            ride.rider(r, s, l, w, t), model.rider(r, s, l, w, t));
    }

    private void seatWhoIsMissing() {
        for (int r = 2; r <= 3; r++) {
            int seated = told(r);
            if ((told(1) >> seated & 1) == 0) callRider(seated);
        }
    }

    private void change() {
        int a = number(0, 3), b = number(0, 3), n = number(0, 1);
        switch (draws.nextInt(12)) {
            case 0: case 1: case 2: callRider(number(0, 3)); break;
            case 3: due("leave(" + a + ")", ride.leave(a), model.leave(a)); break;
            case 4: case 5: due("seat(" + a + ", " + b + ")", ride.seat(a, b), model.seat(a, b)); break;
            case 6: {
                int v = number(5, 20);
                due("set(0, " + v + ")", ride.set(0, v), model.set(0, v));
                break;
            }
            case 7: {
                int v = draws.nextInt(4) == 0 ? 0 : number(0, 99);
                due("set(1, " + v + ")", ride.set(1, v), model.set(1, v));
                break;
            }
            case 8: {
                int which = number(0, 2), v = number(0, 50);
                due("set(" + which + ", " + v + ")", ride.set(which, v), model.set(which, v));
                break;
            }
            case 9: due("image(" + n + ")", ride.image(n), model.image(n)); break;
            case 10: due("restore(" + n + ")", ride.restore(n), model.restore(n)); break;
            default: callTime(); break;
        }
    }

    /** Mostly a time that some strength may have. */
    private void callTime() {
        int r = number(0, 3), sort = number(0, 4), e = number(0, 4), v = number(1, 300);
        if (draws.nextInt(4) != 0) {
            int[] hard = {30, 60, 120, 15, 10};
            v = hard[Math.floorMod(sort, 5)] / (1 + Math.floorMod(e, 5) * (1 + draws.nextInt(20))) + 1;
        }
        due("time(" + r + ", " + sort + ", " + e + ", " + v + ")",
            ride.time(r, sort, e, v), model.time(r, sort, e, v));
    }

    private void askOfPlan() {
        int what = number(0, 1), m = number(-1, told(7) - 1), which = number(0, 3), n = number(0, 99);
        int t = number(0, 10), seconds = number(0, 9999), part = number(0, 1);
        int base = model.ridden(-1, 0);
        if (draws.nextInt(5) != 0) seconds = base + draws.nextInt(70) - 5;
        due("judge(" + what + ")", ride.judge(what), model.judge(what));
        due("ridden(" + m + ", " + which + ")", ride.ridden(m, which), model.ridden(m, which));
        due("share(" + part + ")", ride.share(part), model.share(part));
        due("unseen()", ride.unseen(), model.unseen());
        due("worth()", ride.worth(), model.worth());
        due("quarrel(" + n + ")", ride.quarrel(n), model.quarrel(n));
        due("home(" + t + ", " + seconds + ", " + part + ")",
            ride.home(t, seconds, part), model.home(t, seconds, part));
        due("mean(" + t + ", " + part + ")", ride.mean(t, part), model.mean(t, part));
    }

    private void ask() {
        int r = number(0, 3), e = number(0, 4), f = number(0, 4), what = number(0, 1), part = number(0, 3);
        int beat = number(4, 10), p = number(0, 11), k = number(0, 20), seed = number(0, 9999), n = number(1, 99);
        switch (draws.nextInt(12)) {
            case 0: due("tread(" + r + ", " + e + ", " + beat + ")", ride.tread(r, e, beat), model.tread(r, e, beat)); break;
            case 1: due("soonest(" + what + ")", ride.soonest(what), model.soonest(what)); break;
            case 2: due("oneBeat(" + e + ", " + f + ", " + part + ")", ride.oneBeat(e, f, part), model.oneBeat(e, f, part)); break;
            case 3: due("single(" + r + ", " + e + ")", ride.single(r, e), model.single(r, e)); break;
            case 4: due("sorts(" + e + ")", ride.sorts(e), model.sorts(e)); break;
            case 5: due("uneven(" + e + ", " + f + ", " + p + ")", ride.uneven(e, f, p), model.uneven(e, f, p)); break;
            case 6: due("evenest(" + e + ", " + f + ")", ride.evenest(e, f), model.evenest(e, f)); break;
            case 7: due("calls(" + k + ", " + what + ")", ride.calls(k, what), model.calls(k, what)); break;
            case 8: if (draws.nextInt(3) == 0) due("bestPair(" + what + ")", ride.bestPair(what), model.bestPair(what)); break;
            case 9: {
                if (draws.nextInt(8) == 0) due("forget()", ride.forget(), model.forget());
                callTime();
                callTime();
                due("strong(" + r + ", " + part + ")", ride.strong(r, part), model.strong(r, part));
                break;
            }
            case 10: due("year(" + seed + ", " + n + ", " + part + ")", ride.year(seed, n, part), model.year(seed, n, part)); break;
            default: askOfPlan(); break;
        }
    }

    private void tellAll() {
        for (int what = -2; what < 128; what++) due("told(" + what + ")", ride.told(what), model.told(what));
        int far = draws.nextInt();
        due("told(" + far + ")", ride.told(far), model.told(far));
    }

    private int told(int what) {
        calls++;
        return ride.told(what);
    }

    private void due(String call, long got, long want) {
        calls++;
        check.due(call, got, want);
    }
}
