import java.util.ArrayList;
import java.util.Arrays;
import java.util.List;
import java.util.Random;

/**
 * What the document says of one call by way of others, held by calls alone: no sum is written here a second time,
 * so that a sum that is misread in the same way twice is not found right for it.
 */
public final class AgreeTest {
    private static final Check CHECK = new Check();
    private static final Random DRAWS = new Random(33);
    private static final String GROUND = ".uUdDc~";
    private static final int NONE = TandemRide.NONE;

    public static void main(String[] args) {
        for (int i = 0; i < 150; i++) faults();
        for (int i = 0; i < 150; i++) rides();
        for (int i = 0; i < 150; i++) worths();
        for (int i = 0; i < 40; i++) soonestOfAllPlans(1);
        for (int i = 0; i < 5; i++) soonestOfAllPlans(2);
        for (int i = 0; i < 60; i++) pairs();
        for (int i = 0; i < 150; i++) beats();
        for (int i = 0; i < 150; i++) singlesAndSorts();
        for (int i = 0; i < 100; i++) cranks();
        for (int i = 0; i < 60; i++) calls();
        for (int i = 0; i < 150; i++) quarrels();
        for (int i = 0; i < 60; i++) slips();
        for (int i = 0; i < 150; i++) strengths();
        for (int i = 0; i < 100; i++) years();
        CHECK.end("AgreeTest");
    }

    private static void promise(String sentence, Object drawn) {
        CHECK.promise(sentence + " [" + drawn + "]");
    }

    private static Scene scene(int mostStrength, int mostWind, int mostStretches) {
        return Scene.drawn(DRAWS, mostStrength, mostWind, Scene.text(DRAWS, GROUND, 1 + DRAWS.nextInt(mostStretches)));
    }

    /** Parts of a plan, one for each stretch; rests ahead of one in so many, none if that is 0. */
    private static List<String> parts(int stretches, String efforts, int oneRestIn) {
        List<String> parts = new ArrayList<>();
        for (int i = 0; i < stretches; i++) {
            String rest = oneRestIn > 0 && DRAWS.nextInt(oneRestIn) == 0 ? "R" : "";
            parts.add(rest + Scene.text(DRAWS, efforts, 2) + Scene.text(DRAWS, "abcdefg", 1));
        }
        return parts;
    }

    private static String plan(List<String> parts) {
        return String.join("", parts);
    }

    /** The same part with another EFFORT of BACK. */
    private static String withBack(String part, char effort) {
        int place = part.length() - 2;
        return part.substring(0, place) + effort + part.substring(place + 1);
    }

    /** The first sign that can not stand there: ahead of it all may go on, with it nothing may. */
    private static void faults() {
        String way = Scene.text(DRAWS, GROUND, 1 + DRAWS.nextInt(3));
        for (int how = 0; how < 2; how++) {
            String signs = how == 0 ? ".uUdDc~.uUdDc~.uUdDc~.uUdDc~x" : "R0123401234012345abcdefgh";
            String text = how == 0 ? Scene.text(DRAWS, signs, DRAWS.nextInt(30))
                : plan(parts(way.length(), "01234", 2)) + Scene.text(DRAWS, signs, DRAWS.nextInt(3));
            if (how == 1 && DRAWS.nextBoolean()) text = text.substring(0, DRAWS.nextInt(text.length() + 1));
            promise("8 THE FAULT " + how, way + " " + text);
            int fault = faultOf(way, text, how);
            int place = fault == NONE ? text.length() : fault;
            for (int many = 0; many <= text.length(); many++) {
                int got = faultOf(way, text.substring(0, many), how);
                String begun = "fault of the first " + many;
                if (many > place) CHECK.due(begun, got, place);
                else CHECK.due(begun + ": " + got + " is their number, or NONE", got == many || got == NONE);
            }
        }
    }

    private static int faultOf(String way, String text, int how) {
        TandemRide x = new TandemRide();
        Check.takeWay(x, way);
        Check.say(x, text);
        return x.fault(how);
    }

    private static void rides() {
        Scene scene = scene(20, 9, 8);
        List<String> parts = parts(scene.way().length(), "01234", 3);
        TandemRide x = scene.made(plan(parts));
        int stuck = x.judge(0);
        promise("11 to 14 a ride", scene + " " + plan(parts));
        if (stuck != NONE) {
            CHECK.due("ridden(-1, 0) of one that can not be", x.ridden(-1, 0), TandemRide.NO);
            stuckBegins(scene, parts, stuck, x.judge(1));
            return;
        }
        int unseen = 0;
        long front = 0, both = 0;
        for (int m = 0; m < parts.size(); m++) {
            String part = parts.get(m);
            int took = x.ridden(m, 0) - (m == 0 ? 0 : x.ridden(m - 1, 0));
            CHECK.due("SECONDS of stretch " + m + " alone", took, aloneInRide(scene, m, part));
            if (took == aloneInRide(scene, m, withBack(part, '0'))) unseen |= 1 << m;
            int beat = part.charAt(part.length() - 1) - 'a' + 4;
            int byFront = x.tread(scene.front(), part.charAt(part.length() - 3) - '0', beat);
            front += byFront;
            both += byFront + x.tread(scene.back(), part.charAt(part.length() - 2) - '0', beat);
        }
        CHECK.due("ridden(-1, 0)", x.ridden(-1, 0), x.ridden(parts.size() - 1, 0));
        CHECK.due("unseen()", x.unseen(), unseen);
        if (both > 0) CHECK.due("share by TREADS", x.share(0) * both, x.share(1) * front);
    }

    /** A part of a plan as a ride of its own, on a way of just that stretch: its SECONDS, with its rest. */
    private static int aloneInRide(Scene scene, int stretch, String part) {
        return scene.withWay(scene.way().substring(stretch, stretch + 1)).withHottest(20).made(part).ridden(-1, 0);
    }

    /** As far as the stretch that can not be, the plan can be; with it, for the same reason, it can not. */
    private static void stuckBegins(Scene scene, List<String> parts, int stuck, int reason) {
        String way = scene.way();
        if (stuck > 0) {
            TandemRide ahead = scene.withWay(way.substring(0, stuck)).made(plan(parts.subList(0, stuck)));
            CHECK.due("judge(0) ahead of the stretch", ahead.judge(0), NONE);
            String part = parts.get(stuck);
            int effort = part.charAt(part.length() - (reason == 1 ? 3 : 2)) - '0';
            boolean windOnly = reason < 3 && !part.startsWith("R");
            if (windOnly) CHECK.due("WIND is less than is taken", ahead.ridden(-1, reason) < effort - 2);
        }
        TandemRide with = scene.withWay(way.substring(0, stuck + 1)).made(plan(parts.subList(0, stuck + 1)));
        CHECK.due("judge(0) up to the stretch", with.judge(0), stuck);
        CHECK.due("judge(1) up to the stretch", with.judge(1), reason);
    }

    private static void worths() {
        Scene scene = scene(20, 3, 8);
        List<String> parts = parts(scene.way().length(), DRAWS.nextBoolean() ? "01234" : "1223", 0);
        promise("22 WORTH", scene + " " + plan(parts));
        int first = NONE;
        if (scene.made(plan(parts)).judge(0) != NONE) {
            for (int i = parts.size() - 1; i >= 0; i--) {
                List<String> rested = new ArrayList<>(parts);
                rested.set(i, "R" + parts.get(i));
                if (scene.made(plan(rested)).judge(0) == NONE) first = i;
            }
        }
        CHECK.due("worth()", scene.made(plan(parts)).worth(), first);
    }

    /** SOONEST by riding each plan that there is. */
    private static void soonestOfAllPlans(int stretches) {
        Scene scene = Scene.drawn(DRAWS, DRAWS.nextBoolean() ? 4 : 20, 3, Scene.text(DRAWS, GROUND, stretches));
        promise("15 SOONEST of all plans", scene);
        int plans = (int) Math.pow(350, stretches);
        int fewest = Integer.MAX_VALUE, first = NONE;
        TandemRide x = null;
        for (int n = 0; n < plans; n++) {
            if (n % 40 == 0) x = scene.made("");
            Check.pad(x, planOf(n, stretches));
            int seconds = x.ridden(-1, 0);
            int code = n / (plans / 350);
            int told = 1000 * (code / 175) + 100 * (code / 35 % 5) + 10 * (code / 7 % 5) + code % 7;
            if (seconds < 0 || seconds > fewest || seconds == fewest && told >= first) continue;
            fewest = seconds;
            first = told;
        }
        CHECK.due("soonest(0)", scene.made("").soonest(0), fewest);
        CHECK.due("soonest(1)", scene.made("").soonest(1), first);
    }

    /** The plan of a number: 350 for each stretch, the first stretch's highest. */
    private static String planOf(int number, int stretches) {
        String plan = "";
        int left = number;
        for (int i = 0; i < stretches; i++) {
            int code = left % 350;
            left /= 350;
            String rest = code >= 175 ? "R" : "";
            plan = rest + code / 35 % 5 + code / 7 % 5 + (char) ('a' + code % 7) + plan;
        }
        return plan;
    }

    private static void pairs() {
        Scene scene = scene(20, 4, 6);
        promise("23 BEST PAIR", scene);
        int best = NONE, fewest = NONE;
        for (int pair = 32; pair >= 1; pair--) {
            int front = pair / 10, back = pair % 10;
            if (back > 3 || front == back) continue;
            int seconds = scene.seated(front, back).made("").soonest(0);
            if (fewest != NONE && seconds > fewest) continue;
            fewest = seconds;
            best = pair;
        }
        CHECK.due("bestPair(0)", scene.made("").bestPair(0), best);
        CHECK.due("bestPair(1)", scene.made("").bestPair(1), fewest);
    }

    /** Each stretch is a ride of its own, with the most WIND: neither WIND nor HEAT is looked at so. */
    private static int secondsOfBeat(Scene scene, int front, int back, int beat) {
        int seconds = 0;
        for (int i = 0; i < scene.way().length(); i++) {
            seconds += aloneInRide(scene.withMostWind(), i, "" + front + back + (char) ('a' + beat - 4));
        }
        return seconds;
    }

    private static void beats() {
        Scene scene = Scene.drawn(DRAWS, 20, 9, Scene.text(DRAWS, GROUND, 1 + DRAWS.nextInt(4)));
        int front = DRAWS.nextInt(5), back = DRAWS.nextInt(5);
        promise("16 ONE BEAT of " + front + ", " + back, scene);
        int best = 10;
        for (int beat = 9; beat >= 4; beat--) {
            if (secondsOfBeat(scene, front, back, beat) <= secondsOfBeat(scene, front, back, best)) best = beat;
        }
        TandemRide x = scene.made("");
        CHECK.due("oneBeat(.., 0)", x.oneBeat(front, back, 0), best);
        CHECK.due("oneBeat(.., 1)", x.oneBeat(front, back, 1), secondsOfBeat(scene, front, back, best));
        CHECK.due("oneBeat(.., 2)", x.oneBeat(front, back, 2), loses(x, scene, scene.front(), front, best));
        CHECK.due("oneBeat(.., 3)", x.oneBeat(front, back, 3), loses(x, scene, scene.back(), back, best));
    }

    private static int loses(TandemRide x, Scene scene, int rider, int effort, int beat) {
        int liked = x.tread(rider, effort, scene.riders()[rider][Scene.LIKES]);
        return scene.way().length() * (liked - x.tread(rider, effort, beat));
    }

    private static void singlesAndSorts() {
        Scene scene = scene(20, 9, 10);
        int effort = DRAWS.nextInt(5);
        promise("17, 18 SINGLE, SORTS with EFFORT " + effort, scene);
        int sum = 0;
        for (char stretch : scene.way().toCharArray()) {
            sum += scene.withWay("" + stretch).made("").single(scene.front(), effort);
        }
        CHECK.due("single()", scene.made("").single(scene.front(), effort), sum);
        int bits = 0;
        for (int sort = 0; sort < 5; sort++) {
            TandemRide x = scene.withWay(".uUdD".substring(sort, sort + 1)).made("");
            int quicker = Math.min(x.single(scene.front(), effort), x.single(scene.back(), effort));
            if (x.oneBeat(effort, effort, 1) < quicker) bits |= 1 << sort;
        }
        CHECK.due("sorts()", scene.made("").sorts(effort), bits);
    }

    private static void cranks() {
        Scene scene = scene(20, 9, 1);
        int front = DRAWS.nextInt(5), back = DRAWS.nextInt(5);
        promise("19, 20 CRANKS of " + front + ", " + back, scene);
        TandemRide x = scene.made("");
        int least = 11;
        for (int p = 10; p >= 0; p--) {
            if (x.uneven(front, back, p) <= x.uneven(front, back, least)) least = p;
        }
        CHECK.due("evenest()", x.evenest(front, back), least);
        // It is as far from p to k as from k to p, whoever of the two is ahead.
        TandemRide other = scene.seated(scene.back(), scene.front()).made("");
        for (int p = 0; p < 12; p++) {
            CHECK.due("uneven(.., " + p + ") of both exchanged", x.uneven(front, back, p),
                other.uneven(back, front, (12 - p) % 12));
        }
    }

    /** Where it is called nothing comes and nothing goes: the way without those stretches needs no call. */
    private static void calls() {
        String way = Scene.text(DRAWS, DRAWS.nextBoolean() ? "c~." : "c~..u", 1 + DRAWS.nextInt(12));
        int k = DRAWS.nextInt(9);
        promise("21 CALLS, K " + k, way);
        List<Integer> places = new ArrayList<>();
        for (int i = 0; i < way.length(); i++) {
            if (way.charAt(i) == 'c' || way.charAt(i) == '~') places.add(i);
        }
        int fewest = Integer.MAX_VALUE, least = NONE;
        for (int chosen = 0; chosen < 1 << places.size(); chosen++) {
            int bits = 0;
            for (int i = 0; i < places.size(); i++) bits |= (chosen >> i & 1) << places.get(i);
            int many = Integer.bitCount(bits);
            if (many > fewest || many == fewest && bits > least) continue;
            if (!needsNoCall(without(way, bits), k)) continue;
            fewest = many;
            least = bits;
        }
        TandemRide x = new TandemRide();
        Check.takeWay(x, way);
        CHECK.due("calls(" + k + ", 0)", x.calls(k, 0), fewest);
        CHECK.due("calls(" + k + ", 1)", x.calls(k, 1), least);
    }

    private static String without(String way, int bits) {
        StringBuilder left = new StringBuilder();
        for (int i = 0; i < way.length(); i++) {
            if ((bits >> i & 1) == 0) left.append(way.charAt(i));
        }
        return left.toString();
    }

    private static boolean needsNoCall(String way, int k) {
        if (way.isEmpty()) return true;
        TandemRide x = new TandemRide();
        Check.takeWay(x, way);
        return x.calls(k, 0) == 0;
    }

    /** BACK's hundredths are those that it would have in FRONT, with all else exchanged as well. */
    private static void quarrels() {
        Scene scene = scene(20, 9, 5);
        List<String> parts = parts(scene.way().length(), "0122", 3);
        List<String> exchanged = new ArrayList<>();
        for (String part : parts) {
            int e = part.length() - 3;
            exchanged.add(part.substring(0, e) + part.charAt(e + 1) + part.charAt(e) + part.charAt(e + 2));
        }
        promise("24 QUARREL", scene + " " + plan(parts));
        TandemRide x = scene.made(plan(parts));
        TandemRide other = scene.seated(scene.back(), scene.front()).made(plan(exchanged));
        if (x.judge(0) != NONE) {
            CHECK.due("quarrel(1)", x.quarrel(1), TandemRide.NO);
            return;
        }
        int above = Math.max(0, believes(x, scene, scene.front()) + believes(other, scene, scene.back()) - 100);
        int quarrel = 0;
        for (int n = 0; n <= 99; n++) {
            CHECK.due("quarrel(" + n + ")", x.quarrel(n), quarrel);
            quarrel = Math.min(999, Math.max(0, quarrel + above - scene.calm()));
        }
    }

    private static int believes(TandemRide x, Scene scene, int inFront) {
        long hundredths = 100 * x.share(0) / x.share(1);
        return (int) Math.min(100, hundredths + scene.riders()[inFront][Scene.THINKS]);
    }

    /** The mean is that of all SECONDS, each by its chance; both are held in tenths to the power of the corners. */
    private static void slips() {
        String way = Scene.text(DRAWS, "cc.u", 1 + DRAWS.nextInt(9));
        Scene scene = Scene.drawn(DRAWS, 20, 9, way);
        List<String> parts = parts(way.length(), "012", 4);
        int t = DRAWS.nextInt(11);
        TandemRide x = scene.made(plan(parts));
        promise("25, 26 SLIPS by " + t + " tenths", scene + " " + plan(parts));
        int corners = (int) way.chars().filter(sign -> sign == 'c').count();
        int base = x.ridden(-1, 0);
        long whole = (long) Math.pow(10, corners);
        long before = 0, sum = 0;
        for (int seconds = base - 1; seconds <= base + 5 * corners; seconds++) {
            long upper = x.home(t, seconds, 0), lower = x.home(t, seconds, 1);
            CHECK.due("home(.., " + seconds + ") in lowest terms", gcd(upper, lower), 1);
            CHECK.due("home(.., " + seconds + ") by whole tenths", whole % lower, 0);
            long chance = upper * (whole / lower);
            if (seconds < base) CHECK.due("home(.., " + seconds + ") ahead of all", chance, 0);
            if ((seconds - base) % 5 != 0) CHECK.due("home(.., " + seconds + ") between slips", chance, before);
            sum += (chance - before) * seconds;
            before = chance;
        }
        CHECK.due("home() of all", before, whole);
        CHECK.due("mean() in lowest terms", gcd(x.mean(t, 0), x.mean(t, 1)), 1);
        CHECK.due("mean()", x.mean(t, 0) * whole, sum * x.mean(t, 1));
    }

    private static long gcd(long a, long b) {
        return b == 0 ? a : gcd(b, a % b);
    }

    /** A TIME holds by a STRENGTH if one so strong takes just so long on a way of that stretch. */
    private static void strengths() {
        int times = DRAWS.nextInt(4), fit = 0, least = NONE, greatest = NONE;
        int[][] taken = new int[times][];
        int hidden = 1 + DRAWS.nextInt(20);
        for (int i = 0; i < times; i++) {
            int sort = DRAWS.nextInt(5), effort = DRAWS.nextInt(5);
            int strength = DRAWS.nextInt(5) == 0 ? 1 + DRAWS.nextInt(20) : hidden;
            taken[i] = new int[] {sort, effort, singleOf(strength, sort, effort)};
        }
        TandemRide x = new TandemRide();
        x.rider(2, 1 + DRAWS.nextInt(20), 4 + DRAWS.nextInt(7), 3, 0);
        for (int[] time : taken) x.time(2, time[0], time[1], time[2]);
        for (int strength = 1; strength <= 20; strength++) {
            boolean holds = true;
            for (int[] time : taken) holds &= singleOf(strength, time[0], time[1]) == time[2];
            if (!holds) continue;
            fit++;
            if (least == NONE) least = strength;
            greatest = strength;
        }
        promise("29 STRONG", Arrays.deepToString(taken));
        CHECK.due("strong(2, 0)", x.strong(2, 0), fit);
        CHECK.due("strong(2, 1)", x.strong(2, 1), least);
        CHECK.due("strong(2, 2)", x.strong(2, 2), greatest);
    }

    private static int singleOf(int strength, int sort, int effort) {
        TandemRide x = new TandemRide();
        x.rider(0, strength, 7, 1, 0);
        Check.takeWay(x, ".uUdD".substring(sort, sort + 1));
        return x.single(0, effort);
    }

    /** Day by day, each a ride of its own with one EFFORT and one BEAT all the way. */
    private static void years() {
        Scene scene = Scene.drawn(DRAWS, 20, 9, Scene.text(DRAWS, GROUND, 1 + DRAWS.nextInt(3)));
        int x = DRAWS.nextInt(10000), seed = x, sum = 0, least = Integer.MAX_VALUE, greatest = 0;
        TandemRide ride = scene.made("");
        for (int n = 1; n <= 12; n++) {
            x = (75 * x + 74) % 65537;
            int effort = x % 3 + 1;
            int day = secondsOfBeat(scene, effort, effort, x / 3 % 7 + 4);
            sum += day;
            least = Math.min(least, day);
            greatest = Math.max(greatest, day);
            promise("30 A YEAR, seed " + seed + ", " + n + " days", scene);
            CHECK.due("year(.., 0)", ride.year(seed, n, 0), sum);
            CHECK.due("year(.., 1)", ride.year(seed, n, 1), least);
            CHECK.due("year(.., 2)", ride.year(seed, n, 2), greatest);
        }
    }
}
