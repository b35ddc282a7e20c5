import java.math.BigInteger;
import java.util.ArrayList;
import java.util.HashMap;
import java.util.List;
import java.util.Map;
import java.util.TreeSet;
import java.util.regex.Matcher;
import java.util.regex.Pattern;

/**
 * The document once more, by other means than the class: texts and patterns, all subsets, all plans.
 * Slow, and kept as near to the document's words as can be.
 */
final class Model {
    static final int UNKNOWN = -1, OUTSIDE = -2, STATE = -3, FULL = -4, NO = -5, NONE = -6;
    static final long GONE = -1000000000000000000L;

    record Who(int strength, int likes, int wind, int thinks) { }

    record Taken(int rider, int sort, int effort, int v) { }

    record Kept(Map<Integer, Who> riders, int front, int back, int hottest, int pause, int calm, String way,
                List<Taken> times) { }

    /** One stretch of a ride: how it stands behind it. */
    record Behind(int seconds, int windFront, int windBack, int heat, int treadFront, int treadBack, boolean unseen) { }

    private Map<Integer, Who> riders = new HashMap<>();
    private int front = 0, back = 1, hottest = 10, pause = 60, calm = 10;
    private String way = ".";
    private String pad = "";
    private List<Taken> times = new ArrayList<>();
    private final Kept[] images = new Kept[2];
    private final Map<String, int[]> soonestKnown = new HashMap<>();
    private int judgedStretch, judgedReason;

    // ---- 1

    int rider(int r, int strength, int likes, int wind, int thinks) {
        if (r < 0 || r > 3) return UNKNOWN;
        if (strength < 1 || strength > 20 || likes < 4 || likes > 10 || wind < 1 || wind > 9) return OUTSIDE;
        if (thinks < 0 || thinks > 50) return OUTSIDE;
        riders.put(r, new Who(strength, likes, wind, thinks));
        return riders.size();
    }

    int leave(int r) {
        return riders.remove(r) == null ? UNKNOWN : riders.size();
    }

    int seat(int f, int b) {
        if (f == b || !riders.containsKey(f) || !riders.containsKey(b)) return UNKNOWN;
        front = f;
        back = b;
        return 1;
    }

    int set(int which, int v) {
        int[] least = {5, 0, 0};
        int[] most = {20, 99, 50};
        if (which < 0 || which > 2 || v < least[which] || v > most[which]) return OUTSIDE;
        int was = told(4 + which);
        if (which == 0) hottest = v;
        if (which == 1) pause = v;
        if (which == 2) calm = v;
        return was;
    }

    int say(int sign) {
        if (sign < 33 || sign > 126) return OUTSIDE;
        if (pad.length() == 110) return FULL;
        pad += (char) sign;
        return pad.length();
    }

    int wipe() {
        int was = pad.length();
        pad = "";
        return was;
    }

    int fault(int how) {
        if (how == 0) return faultBy("[.uUdDc~]{1,24}");
        if (how == 1) return faultBy("(R?[0-4][0-4][a-g]){" + way.length() + "}");
        return OUTSIDE;
    }

    /** The first sign behind which no text of the pattern can begin so. */
    private int faultBy(String pattern) {
        Pattern p = Pattern.compile(pattern);
        for (int k = 1; k <= pad.length(); k++) {
            Matcher m = p.matcher(pad.substring(0, k));
            if (!m.matches() && !m.hitEnd()) return k - 1;
        }
        return p.matcher(pad).matches() ? NONE : pad.length();
    }

    int way() {
        if (fault(0) != NONE) return NO;
        way = pad;
        pad = "";
        return way.length();
    }

    int tread(int r, int effort, int beat) {
        if (!riders.containsKey(r)) return UNKNOWN;
        if (effort < 0 || effort > 4 || beat < 4 || beat > 10) return OUTSIDE;
        return treadOf(riders.get(r), effort, beat);
    }

    private static int treadOf(Who who, int effort, int beat) {
        return effort * who.strength * (10 - Math.abs(beat - who.likes)) / 10;
    }

    private static int hard(char stretch) {
        return Map.of('.', 60, 'c', 60, '~', 60, 'u', 120, 'U', 240, 'd', 30, 'D', 20).get(stretch);
    }

    private static int seconds(int hard, int treads) {
        return hard / (1 + treads) + 1;
    }

    private static int windBehind(Who who, int wind, int effort) {
        return Math.min(who.wind, wind - (effort - 2));
    }

    private static int heatBehind(int heat, char stretch) {
        if (stretch == 'd') return heat + 2;
        if (stretch == 'D') return heat + 5;
        return heat == 0 ? 0 : heat - 1;
    }

    // ---- 2

    private boolean seated() {
        return riders.containsKey(front) && riders.containsKey(back);
    }

    /** A faultless plan's parts, one for each stretch, with their R. */
    private List<String> parts(String plan) {
        List<String> parts = new ArrayList<>();
        Matcher m = Pattern.compile("R?[0-4][0-4][a-g]").matcher(plan);
        while (m.find()) parts.add(m.group());
        return parts;
    }

    /** All stretches up to the first that can not be; what is judged is set. */
    private List<Behind> ride(List<String> parts) {
        Who f = riders.get(front), b = riders.get(back);
        int spent = 0, wf = f.wind, wb = b.wind, heat = 0;
        judgedStretch = NONE;
        judgedReason = NONE;
        List<Behind> ride = new ArrayList<>();
        for (int i = 0; i < parts.size(); i++) {
            String part = parts.get(i);
            if (part.startsWith("R")) {
                spent += pause;
                wf = f.wind;
                wb = b.wind;
                heat = 0;
                part = part.substring(1);
            }
            int ef = part.charAt(0) - '0', eb = part.charAt(1) - '0', beat = part.charAt(2) - 'a' + 4;
            wf = windBehind(f, wf, ef);
            wb = windBehind(b, wb, eb);
            heat = heatBehind(heat, way.charAt(i));
            TreeSet<Integer> reasons = new TreeSet<>();
            if (heat > hottest) reasons.add(3);
            if (wb < 0) reasons.add(2);
            if (wf < 0) reasons.add(1);
            if (!reasons.isEmpty()) {
                judgedStretch = i;
                judgedReason = reasons.first();
                return ride;
            }
            int tf = treadOf(f, ef, beat), tb = treadOf(b, eb, beat);
            int took = seconds(hard(way.charAt(i)), tf + tb);
            int without = seconds(hard(way.charAt(i)), tf + treadOf(b, 0, beat));
            spent += took;
            ride.add(new Behind(spent, wf, wb, heat, tf, tb, eb == 0 || took == without));
        }
        return ride;
    }

    /** The whole ride of the pad's plan, or null: a fault, or a stretch that can not be. */
    private List<Behind> wholeRide() {
        if (fault(1) != NONE) return null;
        List<Behind> ride = ride(parts(pad));
        return judgedStretch == NONE ? ride : null;
    }

    int judge(int what) {
        if (!seated()) return STATE;
        if (what < 0 || what > 1) return OUTSIDE;
        if (fault(1) != NONE) return NO;
        ride(parts(pad));
        return what == 0 ? judgedStretch : judgedReason;
    }

    int ridden(int m, int what) {
        if (!seated()) return STATE;
        if (m < -1 || m > way.length() - 1 || what < 0 || what > 3) return OUTSIDE;
        List<Behind> ride = wholeRide();
        if (ride == null) return NO;
        Behind at = ride.get(m == -1 ? way.length() - 1 : m);
        return new int[] {at.seconds, at.windFront, at.windBack, at.heat}[what];
    }

    long share(int part) {
        if (!seated()) return GONE + STATE;
        if (part < 0 || part > 1) return GONE + OUTSIDE;
        List<Behind> ride = wholeRide();
        if (ride == null) return GONE + NO;
        long f = ride.stream().mapToInt(Behind::treadFront).sum();
        long b = ride.stream().mapToInt(Behind::treadBack).sum();
        return f + b == 0 ? part : lowest(BigInteger.valueOf(f), BigInteger.valueOf(f + b), part);
    }

    private static long lowest(BigInteger upper, BigInteger lower, int part) {
        BigInteger by = upper.gcd(lower);
        return (part == 0 ? upper : lower).divide(by).longValueExact();
    }

    int unseen() {
        if (!seated()) return STATE;
        List<Behind> ride = wholeRide();
        if (ride == null) return NO;
        int bits = 0;
        for (int i = 0; i < ride.size(); i++) bits |= ride.get(i).unseen ? 1 << i : 0;
        return bits;
    }

    int soonest(int what) {
        if (!seated()) return STATE;
        if (what < 0 || what > 1) return OUTSIDE;
        return soonestOf(front, back)[what];
    }

    private int[] soonestOf(int f, int b) {
        String key = riders.get(f) + " " + riders.get(b) + " " + way + " " + hottest + " " + pause;
        return soonestKnown.computeIfAbsent(key, k -> seekSoonest(riders.get(f), riders.get(b)));
    }

    /** All plans: each rest, each pair of efforts, each beat, from every state that a plan can come to. */
    private int[] seekSoonest(Who f, Who b) {
        Map<Integer, Integer> known = new HashMap<>();
        int fewest = Integer.MAX_VALUE, first = NONE;
        for (int code = 0; code < 2 * 25 * 7; code++) {
            int rest = code / 175, ef = code / 35 % 5, eb = code / 7 % 5, beat = code % 7 + 4;
            int all = secondsBy(known, f, b, 0, f.wind, b.wind, 0, rest == 1, ef, eb, beat);
            if (all < fewest) {
                fewest = all;
                first = 1000 * rest + 100 * ef + 10 * eb + beat - 4;
            }
        }
        return new int[] {fewest, first};
    }

    private int secondsBy(Map<Integer, Integer> known, Who f, Who b, int i, int wf, int wb, int heat, boolean rest,
                          int ef, int eb, int beat) {
        int nf = windBehind(f, rest ? f.wind : wf, ef);
        int nb = windBehind(b, rest ? b.wind : wb, eb);
        int nh = heatBehind(rest ? 0 : heat, way.charAt(i));
        if (nf < 0 || nb < 0 || nh > hottest) return Integer.MAX_VALUE;
        int onward = fewestFrom(known, f, b, i + 1, nf, nb, nh);
        if (onward == Integer.MAX_VALUE) return onward;
        return (rest ? pause : 0) + seconds(hard(way.charAt(i)), treadOf(f, ef, beat) + treadOf(b, eb, beat)) + onward;
    }

    private int fewestFrom(Map<Integer, Integer> known, Who f, Who b, int i, int wf, int wb, int heat) {
        if (i == way.length()) return 0;
        int key = ((i * 10 + wf) * 10 + wb) * 21 + heat;
        Integer before = known.get(key);
        if (before != null) return before;
        int fewest = Integer.MAX_VALUE;
        for (int code = 0; code < 2 * 25 * 7; code++) {
            fewest = Math.min(fewest, secondsBy(known, f, b, i, wf, wb, heat, code / 175 == 1, code / 35 % 5,
                code / 7 % 5, code % 7 + 4));
        }
        known.put(key, fewest);
        return fewest;
    }

    int oneBeat(int ef, int eb, int what) {
        if (!seated()) return STATE;
        if (ef < 0 || ef > 4 || eb < 0 || eb > 4 || what < 0 || what > 3) return OUTSIDE;
        Who f = riders.get(front), b = riders.get(back);
        int best = 0, fewest = Integer.MAX_VALUE;
        for (int beat = 10; beat >= 4; beat--) {
            int sum = 0;
            for (char c : way.toCharArray()) sum += seconds(hard(c), treadOf(f, ef, beat) + treadOf(b, eb, beat));
            if (sum <= fewest) {
                fewest = sum;
                best = beat;
            }
        }
        int lostFront = 0, lostBack = 0;
        for (int i = 0; i < way.length(); i++) {
            lostFront += treadOf(f, ef, f.likes) - treadOf(f, ef, best);
            lostBack += treadOf(b, eb, b.likes) - treadOf(b, eb, best);
        }
        return new int[] {best, fewest, lostFront, lostBack}[what];
    }

    // ---- 3

    int single(int r, int effort) {
        if (!riders.containsKey(r)) return UNKNOWN;
        if (effort < 0 || effort > 4) return OUTSIDE;
        return way.chars().map(c -> alone(riders.get(r), (char) c, effort)).sum();
    }

    private static int alone(Who who, char stretch, int effort) {
        return seconds(hard(stretch) / 2, treadOf(who, effort, who.likes));
    }

    int sorts(int effort) {
        if (!seated()) return STATE;
        if (effort < 0 || effort > 4) return OUTSIDE;
        Who f = riders.get(front), b = riders.get(back);
        int bits = 0;
        for (int sort = 0; sort < 5; sort++) {
            char stretch = ".uUdD".charAt(sort);
            int together = Integer.MAX_VALUE;
            for (int beat = 4; beat <= 10; beat++) {
                together = Math.min(together,
                    seconds(hard(stretch), treadOf(f, effort, beat) + treadOf(b, effort, beat)));
            }
            if (together < Math.min(alone(f, stretch, effort), alone(b, stretch, effort))) bits += 1 << sort;
        }
        return bits;
    }

    int uneven(int ef, int eb, int p) {
        if (!seated()) return STATE;
        if (ef < 0 || ef > 4 || eb < 0 || eb > 4 || p < 0 || p > 11) return OUTSIDE;
        int[] crank = {0, 1, 2, 3, 4, 5, 6, 5, 4, 3, 2, 1};
        TreeSet<Integer> all = new TreeSet<>();
        for (int k = 0; k < 12; k++) {
            all.add(ef * riders.get(front).strength * crank[k] + eb * riders.get(back).strength * crank[(k + p) % 12]);
        }
        return all.last() - all.first();
    }

    int evenest(int ef, int eb) {
        if (!seated()) return STATE;
        if (ef < 0 || ef > 4 || eb < 0 || eb > 4) return OUTSIDE;
        int best = 11;
        for (int p = 11; p >= 0; p--) {
            if (uneven(ef, eb, p) <= uneven(ef, eb, best)) best = p;
        }
        return best;
    }

    int calls(int k, int what) {
        if (k < 0 || k > 20 || what < 0 || what > 1) return OUTSIDE;
        List<Integer> places = new ArrayList<>();
        for (int i = 0; i < way.length(); i++) {
            if (way.charAt(i) == 'c' || way.charAt(i) == '~') places.add(i);
        }
        if (places.size() > 12) return FULL;
        int fewest = Integer.MAX_VALUE, which = 0;
        for (int chosen = 0; chosen < 1 << places.size(); chosen++) {
            int bits = 0;
            for (int i = 0; i < places.size(); i++) bits |= (chosen >> i & 1) << places.get(i);
            if (sorest(bits) > k) continue;
            int many = Integer.bitCount(bits);
            if (many < fewest || many == fewest && bits < which) {
                fewest = many;
                which = bits;
            }
        }
        return what == 0 ? fewest : which;
    }

    private int sorest(int called) {
        int sore = 0, most = 0;
        for (int i = 0; i < way.length(); i++) {
            if ((called >> i & 1) != 0) continue;
            char c = way.charAt(i);
            sore = c == 'c' ? sore + 3 : c == '~' ? sore + 2 : Math.max(0, sore - 1);
            most = Math.max(most, sore);
        }
        return most;
    }

    int worth() {
        if (!seated()) return STATE;
        if (fault(1) != NONE || pad.contains("R")) return NO;
        ride(parts(pad));
        if (judgedStretch == NONE) return NONE;
        for (int i = 0; i < way.length(); i++) {
            List<String> parts = parts(pad);
            parts.set(i, "R" + parts.get(i));
            ride(parts);
            if (judgedStretch == NONE) return i;
        }
        return NONE;
    }

    int bestPair(int what) {
        if (what < 0 || what > 1) return OUTSIDE;
        int best = NONE, fewest = NONE;
        for (int pair = 0; pair < 40; pair++) {
            int f = pair / 10, b = pair % 10;
            if (f == b || !riders.containsKey(f) || !riders.containsKey(b)) continue;
            int[] soonest = soonestOf(f, b);
            if (best == NONE || soonest[0] < fewest) {
                best = pair;
                fewest = soonest[0];
            }
        }
        return what == 0 ? best : fewest;
    }

    // ---- 4

    int quarrel(int n) {
        if (!seated()) return STATE;
        if (n < 0 || n > 99) return OUTSIDE;
        List<Behind> ride = wholeRide();
        if (ride == null) return NO;
        int f = ride.stream().mapToInt(Behind::treadFront).sum();
        int b = ride.stream().mapToInt(Behind::treadBack).sum();
        int believesFront = Math.min(100, (f + b == 0 ? 0 : 100 * f / (f + b)) + riders.get(front).thinks);
        int believesBack = Math.min(100, (f + b == 0 ? 0 : 100 * b / (f + b)) + riders.get(back).thinks);
        int quarrel = 0;
        for (int day = 1; day <= n; day++) {
            quarrel += Math.max(0, believesFront + believesBack - 100) - calm;
            if (quarrel < 0) quarrel = 0;
            if (quarrel > 999) quarrel = 999;
        }
        return quarrel;
    }

    private int corners() {
        return (int) way.chars().filter(c -> c == 'c').count();
    }

    long home(int t, int limit, int part) {
        if (!seated()) return GONE + STATE;
        if (t < 0 || t > 10 || limit < 0 || limit > 9999 || part < 0 || part > 1) return GONE + OUTSIDE;
        List<Behind> ride = wholeRide();
        if (ride == null) return GONE + NO;
        if (corners() > 12) return GONE + FULL;
        int base = ride.get(ride.size() - 1).seconds;
        BigInteger in = BigInteger.ZERO;
        for (int slips = 0; slips < 1 << corners(); slips++) {
            BigInteger chance = BigInteger.ONE;
            int took = base;
            for (int c = 0; c < corners(); c++) {
                boolean slip = (slips >> c & 1) != 0;
                chance = chance.multiply(BigInteger.valueOf(slip ? t : 10 - t));
                if (slip) took += 5;
            }
            if (took <= limit) in = in.add(chance);
        }
        return lowest(in, BigInteger.TEN.pow(corners()), part);
    }

    long mean(int t, int part) {
        if (!seated()) return GONE + STATE;
        if (t < 0 || t > 10 || part < 0 || part > 1) return GONE + OUTSIDE;
        List<Behind> ride = wholeRide();
        if (ride == null) return GONE + NO;
        BigInteger tenths = BigInteger.valueOf(ride.get(ride.size() - 1).seconds).multiply(BigInteger.TEN);
        for (int c = 0; c < corners(); c++) tenths = tenths.add(BigInteger.valueOf(5L * t));
        return lowest(tenths, BigInteger.TEN, part);
    }

    int time(int r, int sort, int effort, int v) {
        if (!riders.containsKey(r)) return UNKNOWN;
        if (sort < 0 || sort > 4 || effort < 0 || effort > 4 || v < 1 || v > 300) return OUTSIDE;
        if (times.size() == 6) return FULL;
        times.add(new Taken(r, sort, effort, v));
        return times.size();
    }

    int forget() {
        int was = times.size();
        times.clear();
        return was;
    }

    int strong(int r, int what) {
        if (!riders.containsKey(r)) return UNKNOWN;
        if (what < 0 || what > 2) return OUTSIDE;
        TreeSet<Integer> fit = new TreeSet<>();
        for (int s = 1; s <= 20; s++) {
            Who who = new Who(s, 7, 1, 0);
            boolean all = true;
            for (Taken t : times) {
                if (t.rider == r && alone(who, ".uUdD".charAt(t.sort), t.effort) != t.v) all = false;
            }
            if (all) fit.add(s);
        }
        if (what == 0) return fit.size();
        if (fit.isEmpty()) return NONE;
        return what == 1 ? fit.first() : fit.last();
    }

    int year(int seed, int n, int what) {
        if (!seated()) return STATE;
        if (seed < 0 || seed > 9999 || n < 1 || n > 99 || what < 0 || what > 2) return OUTSIDE;
        BigInteger x = BigInteger.valueOf(seed);
        List<Integer> days = new ArrayList<>();
        for (int day = 0; day < n; day++) {
            x = x.multiply(BigInteger.valueOf(75)).add(BigInteger.valueOf(74)).mod(BigInteger.valueOf(65537));
            int effort = 1 + x.intValue() % 3;
            int beat = 4 + (x.intValue() / 3) % 7;
            int treads = treadOf(riders.get(front), effort, beat) + treadOf(riders.get(back), effort, beat);
            days.add(way.chars().map(c -> seconds(hard((char) c), treads)).sum());
        }
        if (what == 0) return days.stream().mapToInt(d -> d).sum();
        return what == 1 ? days.stream().mapToInt(d -> d).min().getAsInt()
            : days.stream().mapToInt(d -> d).max().getAsInt();
    }

    int image(int n) {
        if (n < 0 || n > 1) return OUTSIDE;
        images[n] = new Kept(Map.copyOf(riders), front, back, hottest, pause, calm, way, List.copyOf(times));
        return 1;
    }

    int restore(int n) {
        if (n < 0 || n > 1) return OUTSIDE;
        Kept kept = images[n];
        if (kept == null) return STATE;
        riders = new HashMap<>(kept.riders);
        front = kept.front;
        back = kept.back;
        hottest = kept.hottest;
        pause = kept.pause;
        calm = kept.calm;
        way = kept.way;
        times = new ArrayList<>(kept.times);
        return 1;
    }

    int told(int what) {
        Map<Integer, Integer> all = new HashMap<>();
        all.put(0, pad.length());
        all.put(1, riders.keySet().stream().mapToInt(r -> 1 << r).sum());
        all.put(2, front);
        all.put(3, back);
        all.put(4, hottest);
        all.put(5, pause);
        all.put(6, calm);
        all.put(7, way.length());
        all.put(8, times.size());
        for (Map.Entry<Integer, Who> e : riders.entrySet()) {
            int ten = 10 * (1 + e.getKey());
            all.put(ten, e.getValue().strength);
            all.put(ten + 1, e.getValue().likes);
            all.put(ten + 2, e.getValue().wind);
            all.put(ten + 3, e.getValue().thinks);
        }
        for (int i = 0; i < way.length(); i++) all.put(100 + i, (int) way.charAt(i));
        return all.getOrDefault(what, OUTSIDE);
    }
}
