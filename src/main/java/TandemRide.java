/**
 * Two on one bicycle: riders, ways and plans, the rides that come of them, and what the two make of it.
 * What each call answers is told, promise by promise, in DOC.md.
 */
public final class TandemRide {
    public static final int UNKNOWN = -1, OUTSIDE = -2, STATE = -3, FULL = -4, NO = -5, NONE = -6;
    public static final long GONE = -1000000000000000000L;

    private static final int RIDERS = 4;
    private static final int MOST_STRENGTH = 20;
    private static final int LEAST_BEAT = 4;
    private static final int MOST_BEAT = 10;
    private static final int MOST_WIND = 9;
    private static final int MOST_THINKS = 50;
    private static final int EFFORTS = 5;
    private static final int MOST_EFFORT = EFFORTS - 1;
    private static final int PAIRS_OF_EFFORTS = EFFORTS * EFFORTS;
    private static final int SORTS = 5;
    private static final int MOST_STRETCHES = 24;
    private static final int LEAST_HOTTEST = 5;
    private static final int MOST_HOTTEST = 20;
    private static final int MOST_PAUSE = 99;
    private static final int MOST_CALM = 50;
    private static final int MOST_SIGNS = 110;
    private static final int LEAST_SIGN = 33;
    private static final int MOST_SIGN = 126;
    private static final int MOST_TIMES = 6;
    private static final int MOST_TIME = 300;
    private static final int IMAGES = 2;
    private static final int TWELFTHS = 12;
    private static final int MOST_SORE = 20;
    private static final int MOST_CHOSEN = 12;
    private static final int MOST_QUARREL = 999;
    private static final int MOST_DAYS = 99;
    private static final int MOST_SECONDS = 9999;
    private static final int MOST_SEED = 9999;
    private static final int SLIP_SECONDS = 5;
    private static final int TENTHS = 10;
    private static final int HUNDREDTHS = 100;
    /** More than any sum of seconds, pushes or bits of calls comes to. */
    private static final int FAR = 1000000000;

    private static final int WAY_FAULT = 0;
    private static final int PLAN_FAULT = 1;
    private static final int NO_REST = -1;

    private final Setup now;
    private final Setup[] images;
    private final boolean[] imageKept;
    private final Pad pad;
    private final Plan plan;
    private final Ride ride;
    private final Search search;

    public TandemRide() {
        now = new Setup();
        images = new Setup[IMAGES];
        for (int n = 0; n < IMAGES; n++) images[n] = new Setup();
        imageKept = new boolean[IMAGES];
        pad = new Pad();
        plan = new Plan();
        ride = new Ride();
        search = new Search();
    }

    // ---- 1 riders, ways, plans

    public int rider(int rider, int strength, int likes, int wind, int thinks) {
        if (!isWithin(rider, 0, RIDERS - 1)) return UNKNOWN;
        if (!isWithin(strength, 1, MOST_STRENGTH) || !isWithin(likes, LEAST_BEAT, MOST_BEAT)) return OUTSIDE;
        if (!isWithin(wind, 1, MOST_WIND) || !isWithin(thinks, 0, MOST_THINKS)) return OUTSIDE;
        now.riders[rider].come(strength, likes, wind, thinks);
        return now.ridersThere();
    }

    public int leave(int rider) {
        if (!now.isThere(rider)) return UNKNOWN;
        now.riders[rider].there = false;
        return now.ridersThere();
    }

    public int seat(int front, int back) {
        if (!now.isThere(front) || !now.isThere(back) || front == back) return UNKNOWN;
        now.front = front;
        now.back = back;
        return 1;
    }

    public int set(int which, int v) {
        int before;
        if (which == 0 && isWithin(v, LEAST_HOTTEST, MOST_HOTTEST)) {
            before = now.hottest;
            now.hottest = v;
        } else if (which == 1 && isWithin(v, 0, MOST_PAUSE)) {
            before = now.pause;
            now.pause = v;
        } else if (which == 2 && isWithin(v, 0, MOST_CALM)) {
            before = now.calm;
            now.calm = v;
        } else {
            before = OUTSIDE;
        }
        return before;
    }

    public int say(int sign) {
        if (!isWithin(sign, LEAST_SIGN, MOST_SIGN)) return OUTSIDE;
        if (pad.length >= MOST_SIGNS) return FULL;
        pad.add(sign);
        return pad.length;
    }

    public int wipe() {
        int signs = pad.length;
        pad.length = 0;
        return signs;
    }

    public int fault(int how) {
        if (how == WAY_FAULT) return pad.faultAsWay();
        if (how == PLAN_FAULT) return plan.read(pad, now.stretches);
        return OUTSIDE;
    }

    public int way() {
        if (pad.faultAsWay() != NONE) return NO;
        now.takeWay(pad);
        pad.length = 0;
        return now.stretches;
    }

    public int tread(int rider, int effort, int beat) {
        if (!now.isThere(rider)) return UNKNOWN;
        if (!isEffort(effort) || !isWithin(beat, LEAST_BEAT, MOST_BEAT)) return OUTSIDE;
        return now.riders[rider].treads(effort, beat);
    }

    // ---- 2 rides

    public int judge(int what) {
        if (!areSeated()) return STATE;
        if (!isWithin(what, 0, 1)) return OUTSIDE;
        if (plan.read(pad, now.stretches) != NONE) return NO;
        ride.go(now, plan, NO_REST);
        return what == 0 ? ride.stuckAt : ride.reason;
    }

    public int ridden(int m, int what) {
        if (!areSeated()) return STATE;
        if (!isWithin(m, -1, now.stretches - 1) || !isWithin(what, 0, 3)) return OUTSIDE;
        if (!planIsRidden()) return NO;
        int stretch = m < 0 ? now.stretches - 1 : m;
        if (what == 0) return ride.seconds[stretch];
        if (what == 1) return ride.windFront[stretch];
        if (what == 2) return ride.windBack[stretch];
        return ride.heat[stretch];
    }

    public long share(int part) {
        if (!areSeated()) return GONE + STATE;
        if (!isWithin(part, 0, 1)) return GONE + OUTSIDE;
        if (!planIsRidden()) return GONE + NO;
        int both = ride.treadsFront + ride.treadsBack;
        if (both == 0) return part;
        return fractionPart(ride.treadsFront, both, part);
    }

    public int unseen() {
        if (!areSeated()) return STATE;
        if (!planIsRidden()) return NO;
        return ride.unseenBits;
    }

    public int soonest(int what) {
        if (!areSeated()) return STATE;
        if (!isWithin(what, 0, 1)) return OUTSIDE;
        search.seek(now, now.riderInFront(), now.riderInBack());
        return what == 0 ? search.fewest : search.firstStretch;
    }

    public int oneBeat(int front, int back, int what) {
        if (!areSeated()) return STATE;
        if (!isEffort(front) || !isEffort(back) || !isWithin(what, 0, 3)) return OUTSIDE;
        int beat = LEAST_BEAT;
        int fewest = secondsAtBeat(front, back, beat);
        for (int b = LEAST_BEAT + 1; b <= MOST_BEAT; b++) {
            int seconds = secondsAtBeat(front, back, b);
            if (seconds < fewest) {
                fewest = seconds;
                beat = b;
            }
        }
        if (what == 0) return beat;
        if (what == 1) return fewest;
        if (what == 2) return now.stretches * now.riderInFront().losesAt(front, beat);
        return now.stretches * now.riderInBack().losesAt(back, beat);
    }

    // ---- 3 singles, cranks, calls

    public int single(int rider, int effort) {
        if (!now.isThere(rider)) return UNKNOWN;
        if (!isEffort(effort)) return OUTSIDE;
        return now.secondsAlone(now.riders[rider].treadsAsLiked(effort));
    }

    public int sorts(int effort) {
        if (!areSeated()) return STATE;
        if (!isEffort(effort)) return OUTSIDE;
        int together = mostTreads(now.riderInFront(), effort, now.riderInBack(), effort);
        int alone = Math.max(now.riderInFront().treadsAsLiked(effort), now.riderInBack().treadsAsLiked(effort));
        int bits = 0;
        for (int sort = 0; sort < SORTS; sort++) {
            int hard = Ground.hardOf(sort);
            if (Ground.secondsOf(hard, together) < Ground.secondsOf(hard / 2, alone)) bits |= 1 << sort;
        }
        return bits;
    }

    public int uneven(int front, int back, int p) {
        if (!areSeated()) return STATE;
        if (!isEffort(front) || !isEffort(back) || !isWithin(p, 0, TWELFTHS - 1)) return OUTSIDE;
        return unevenness(front, back, p);
    }

    public int evenest(int front, int back) {
        if (!areSeated()) return STATE;
        if (!isEffort(front) || !isEffort(back)) return OUTSIDE;
        int evenest = 0;
        int least = unevenness(front, back, 0);
        for (int p = 1; p < TWELFTHS; p++) {
            int uneven = unevenness(front, back, p);
            if (uneven < least) {
                least = uneven;
                evenest = p;
            }
        }
        return evenest;
    }

    public int calls(int k, int what) {
        if (!isWithin(k, 0, MOST_SORE) || !isWithin(what, 0, 1)) return OUTSIDE;
        if (now.corners() + now.bumps() > MOST_CHOSEN) return FULL;
        int fewest = search.fewestCalls(now, k);
        return what == 0 ? fewest >> MOST_STRETCHES : fewest & ((1 << MOST_STRETCHES) - 1);
    }

    public int worth() {
        if (!areSeated()) return STATE;
        if (plan.read(pad, now.stretches) != NONE || plan.restsIn(now.stretches)) return NO;
        ride.go(now, plan, NO_REST);
        // A rest behind the first stretch that can not be comes too late for it.
        int last = ride.stuckAt;
        for (int stretch = 0; stretch <= last; stretch++) {
            ride.go(now, plan, stretch);
            if (ride.stuckAt == NONE) return stretch;
        }
        return NONE;
    }

    public int bestPair(int what) {
        if (!isWithin(what, 0, 1)) return OUTSIDE;
        int pair = NONE;
        int fewest = NONE;
        for (int front = 0; front < RIDERS; front++) {
            // The same two the other way round are as soon, and tell a greater number.
            for (int back = front + 1; back < RIDERS; back++) {
                if (!now.isThere(front) || !now.isThere(back)) continue;
                search.seek(now, now.riders[front], now.riders[back]);
                if (pair == NONE || search.fewest < fewest) {
                    pair = 10 * front + back;
                    fewest = search.fewest;
                }
            }
        }
        return what == 0 ? pair : fewest;
    }

    // ---- 4 quarrels, slips, times

    public int quarrel(int n) {
        if (!areSeated()) return STATE;
        if (!isWithin(n, 0, MOST_DAYS)) return OUTSIDE;
        if (!planIsRidden()) return NO;
        int believedFront = believedBy(now.riderInFront(), ride.treadsFront);
        int believedBack = believedBy(now.riderInBack(), ride.treadsBack);
        int above = Math.max(0, believedFront + believedBack - HUNDREDTHS);
        int quarrel = 0;
        for (int day = 0; day < n; day++) {
            quarrel = Math.min(MOST_QUARREL, Math.max(0, quarrel + above - now.calm));
        }
        return quarrel;
    }

    public long home(int t, int seconds, int part) {
        if (!areSeated()) return GONE + STATE;
        if (!isWithin(t, 0, TENTHS) || !isWithin(seconds, 0, MOST_SECONDS)) return GONE + OUTSIDE;
        if (!isWithin(part, 0, 1)) return GONE + OUTSIDE;
        if (!planIsRidden()) return GONE + NO;
        int corners = now.corners();
        if (corners > MOST_CHOSEN) return GONE + FULL;
        int spare = seconds - ride.seconds[now.stretches - 1];
        long upper = spare < 0 ? 0 : chancesOfSlips(corners, Math.min(corners, spare / SLIP_SECONDS), t);
        return fractionPart(upper, power(TENTHS, corners), part);
    }

    public long mean(int t, int part) {
        if (!areSeated()) return GONE + STATE;
        if (!isWithin(t, 0, TENTHS) || !isWithin(part, 0, 1)) return GONE + OUTSIDE;
        if (!planIsRidden()) return GONE + NO;
        int tenths = TENTHS * ride.seconds[now.stretches - 1] + SLIP_SECONDS * t * now.corners();
        return fractionPart(tenths, TENTHS, part);
    }

    public int time(int rider, int sort, int effort, int v) {
        if (!now.isThere(rider)) return UNKNOWN;
        if (!isWithin(sort, 0, SORTS - 1) || !isEffort(effort) || !isWithin(v, 1, MOST_TIME)) return OUTSIDE;
        if (now.times >= MOST_TIMES) return FULL;
        now.addTime(rider, sort, effort, v);
        return now.times;
    }

    public int forget() {
        int times = now.times;
        now.times = 0;
        return times;
    }

    public int strong(int rider, int what) {
        if (!now.isThere(rider)) return UNKNOWN;
        if (!isWithin(what, 0, 2)) return OUTSIDE;
        int fit = 0;
        int least = NONE;
        int greatest = NONE;
        for (int strength = 1; strength <= MOST_STRENGTH; strength++) {
            if (!now.timesHold(rider, strength)) continue;
            if (fit == 0) least = strength;
            greatest = strength;
            fit++;
        }
        if (what == 0) return fit;
        return what == 1 ? least : greatest;
    }

    public int year(int seed, int n, int what) {
        if (!areSeated()) return STATE;
        if (!isWithin(seed, 0, MOST_SEED) || !isWithin(n, 1, MOST_DAYS) || !isWithin(what, 0, 2)) return OUTSIDE;
        int x = seed;
        int sum = 0;
        int least = FAR;
        int greatest = 0;
        for (int day = 0; day < n; day++) {
            x = (75 * x + 74) % 65537;
            int effort = 1 + x % 3;
            int seconds = secondsAtBeat(effort, effort, LEAST_BEAT + x / 3 % 7);
            sum += seconds;
            least = Math.min(least, seconds);
            greatest = Math.max(greatest, seconds);
        }
        if (what == 0) return sum;
        return what == 1 ? least : greatest;
    }

    public int image(int n) {
        if (!isWithin(n, 0, IMAGES - 1)) return OUTSIDE;
        images[n].copyFrom(now);
        imageKept[n] = true;
        return 1;
    }

    public int restore(int n) {
        if (!isWithin(n, 0, IMAGES - 1)) return OUTSIDE;
        if (!imageKept[n]) return STATE;
        now.copyFrom(images[n]);
        return 1;
    }

    public int told(int what) {
        switch (what) {
            case 0: return pad.length;
            case 1: return now.riderBits();
            case 2: return now.front;
            case 3: return now.back;
            case 4: return now.hottest;
            case 5: return now.pause;
            case 6: return now.calm;
            case 7: return now.stretches;
            case 8: return now.times;
            default: break;
        }
        if (isWithin(what, 100, 99 + now.stretches)) return now.signs[what - 100];
        if (isWithin(what, 10, 49)) return toldOfRider(what / 10 - 1, what % 10);
        return OUTSIDE;
    }

    // ---- what several calls ask

    private int toldOfRider(int rider, int what) {
        if (!now.isThere(rider)) return OUTSIDE;
        Rider who = now.riders[rider];
        switch (what) {
            case 0: return who.strength;
            case 1: return who.likes;
            case 2: return who.wind;
            case 3: return who.thinks;
            default: return OUTSIDE;
        }
    }

    private static boolean isWithin(int v, int least, int most) {
        return v >= least && v <= most;
    }

    private static boolean isEffort(int effort) {
        return isWithin(effort, 0, MOST_EFFORT);
    }

    private boolean areSeated() {
        return now.isThere(now.front) && now.isThere(now.back);
    }

    /** Whether the pad is a plan without a fault all of whose stretches can be; the ride holds it then. */
    private boolean planIsRidden() {
        if (plan.read(pad, now.stretches) != NONE) return false;
        ride.go(now, plan, NO_REST);
        return ride.stuckAt == NONE;
    }

    private int secondsAtBeat(int effortFront, int effortBack, int beat) {
        int treads = now.riderInFront().treads(effortFront, beat) + now.riderInBack().treads(effortBack, beat);
        return now.secondsTogether(treads);
    }

    /** The most treads of two riders at one beat: the seconds at that beat are the fewest, whatever the stretch. */
    private static int mostTreads(Rider front, int effortFront, Rider back, int effortBack) {
        int most = 0;
        for (int beat = LEAST_BEAT; beat <= MOST_BEAT; beat++) {
            most = Math.max(most, front.treads(effortFront, beat) + back.treads(effortBack, beat));
        }
        return most;
    }

    private int unevenness(int effortFront, int effortBack, int p) {
        int pushFront = effortFront * now.riderInFront().strength;
        int pushBack = effortBack * now.riderInBack().strength;
        int most = 0;
        int least = FAR;
        for (int k = 0; k < TWELFTHS; k++) {
            int push = pushFront * crankAt(k) + pushBack * crankAt((k + p) % TWELFTHS);
            most = Math.max(most, push);
            least = Math.min(least, push);
        }
        return most - least;
    }

    private static int crankAt(int k) {
        return 6 - Math.abs(k - 6);
    }

    /** The hundredths that a rider who trod so much of the ride believes to do. */
    private int believedBy(Rider who, int treads) {
        int both = ride.treadsFront + ride.treadsBack;
        int hundredths = both == 0 ? 0 : HUNDREDTHS * treads / both;
        return Math.min(HUNDREDTHS, hundredths + who.thinks);
    }

    /** How many of 10 to the power of corners chances have at most so many slips, each by t tenths. */
    private static long chancesOfSlips(int corners, int mostSlips, int t) {
        long chances = 0;
        long waysToSlip = 1;
        for (int slips = 0; slips <= mostSlips; slips++) {
            chances += waysToSlip * power(t, slips) * power(TENTHS - t, corners - slips);
            waysToSlip = waysToSlip * (corners - slips) / (slips + 1);
        }
        return chances;
    }

    private static long power(long base, int exponent) {
        long power = 1;
        for (int i = 0; i < exponent; i++) power *= base;
        return power;
    }

    /** The upper (0) or lower (1) number of a fraction in lowest terms; lower is at least 1. */
    private static long fractionPart(long upper, long lower, int part) {
        long a = lower;
        long b = upper;
        for (int step = 0; step < 1000 && b != 0; step++) {
            long left = a % b;
            a = b;
            b = left;
        }
        if (a == 0) return part;
        return (part == 0 ? upper : lower) / a;
    }

    /** One of the riders; a rider who left keeps the row for whoever comes next. */
    private static final class Rider {
        boolean there;
        int strength;
        int likes;
        int wind;
        int thinks;

        void come(int withStrength, int liking, int withWind, int thinking) {
            there = true;
            strength = withStrength;
            likes = liking;
            wind = withWind;
            thinks = thinking;
        }

        void copyFrom(Rider other) {
            there = other.there;
            strength = other.strength;
            likes = other.likes;
            wind = other.wind;
            thinks = other.thinks;
        }

        int treads(int effort, int beat) {
            return effort * strength * (10 - Math.abs(beat - likes)) / 10;
        }

        int treadsAsLiked(int effort) {
            return effort * strength;
        }

        int losesAt(int effort, int beat) {
            return treadsAsLiked(effort) - treads(effort, beat);
        }

        /** The wind behind a stretch of one who has so much at most; below 0 if the stretch can not be. */
        static int windBehind(int most, int ahead, int effort) {
            return Math.min(most, ahead + 2 - effort);
        }
    }

    /** What stretches are made of: sorts 0 to 4 as in SORTS, 5 a corner, 6 a bump, -1 none. */
    private static final class Ground {
        static final int DOWN = 3, STEEP_DOWN = 4, CORNER = 5, BUMP = 6;

        static int sortOf(int sign) {
            switch (sign) {
                case '.': return 0;
                case 'u': return 1;
                case 'U': return 2;
                case 'd': return DOWN;
                case 'D': return STEEP_DOWN;
                case 'c': return CORNER;
                case '~': return BUMP;
                default: return -1;
            }
        }

        static int hardOf(int sort) {
            switch (sort) {
                case 1: return 120;
                case 2: return 240;
                case DOWN: return 30;
                case STEEP_DOWN: return 20;
                default: return 60;
            }
        }

        static int secondsOf(int hard, int treads) {
            return hard / (1 + Math.max(0, treads)) + 1;
        }

        static int heatBehind(int heat, int sort) {
            if (sort == DOWN) return heat + 2;
            if (sort == STEEP_DOWN) return heat + 5;
            return Math.max(0, heat - 1);
        }

        /** How sore the knee is behind a stretch that is not called. */
        static int soreBehind(int sore, int sort) {
            if (sort == CORNER) return sore + 3;
            if (sort == BUMP) return sore + 2;
            return Math.max(0, sore - 1);
        }
    }

    /** The signs that are said until a way is taken or they are wiped. */
    private static final class Pad {
        private final int[] row = new int[MOST_SIGNS];
        int length;

        void add(int sign) {
            if (length < 0 || length >= row.length) return;
            row[length] = sign;
            length++;
        }

        /** The sign at a place; 0, which fits nowhere, behind the last. */
        int signAt(int place) {
            return place >= 0 && place < length && place < row.length ? row[place] : 0;
        }

        int faultAsWay() {
            for (int place = 0; place < length; place++) {
                if (place >= MOST_STRETCHES || Ground.sortOf(signAt(place)) < 0) return place;
            }
            return length == 0 ? 0 : NONE;
        }
    }

    /** All that an image keeps. */
    private static final class Setup {
        final Rider[] riders = new Rider[RIDERS];
        final int[] signs = new int[MOST_STRETCHES];
        final int[] ground = new int[MOST_STRETCHES];
        private final int[] timeRider = new int[MOST_TIMES];
        private final int[] timeSort = new int[MOST_TIMES];
        private final int[] timeEffort = new int[MOST_TIMES];
        private final int[] timeSeconds = new int[MOST_TIMES];
        int front = 0;
        int back = 1;
        int hottest = 10;
        int pause = 60;
        int calm = 10;
        int stretches = 1;
        int times = 0;

        Setup() {
            for (int r = 0; r < RIDERS; r++) riders[r] = new Rider();
            signs[0] = '.';
        }

        void copyFrom(Setup other) {
            for (int r = 0; r < RIDERS; r++) riders[r].copyFrom(other.riders[r]);
            System.arraycopy(other.signs, 0, signs, 0, MOST_STRETCHES);
            System.arraycopy(other.ground, 0, ground, 0, MOST_STRETCHES);
            System.arraycopy(other.timeRider, 0, timeRider, 0, MOST_TIMES);
            System.arraycopy(other.timeSort, 0, timeSort, 0, MOST_TIMES);
            System.arraycopy(other.timeEffort, 0, timeEffort, 0, MOST_TIMES);
            System.arraycopy(other.timeSeconds, 0, timeSeconds, 0, MOST_TIMES);
            front = other.front;
            back = other.back;
            hottest = other.hottest;
            pause = other.pause;
            calm = other.calm;
            stretches = other.stretches;
            times = other.times;
        }

        boolean isThere(int rider) {
            return isWithin(rider, 0, RIDERS - 1) && riders[rider].there;
        }

        Rider riderInFront() {
            return riders[front];
        }

        Rider riderInBack() {
            return riders[back];
        }

        int ridersThere() {
            return Integer.bitCount(riderBits());
        }

        int riderBits() {
            int bits = 0;
            for (int r = 0; r < RIDERS; r++) {
                if (riders[r].there) bits |= 1 << r;
            }
            return bits;
        }

        void takeWay(Pad pad) {
            stretches = Math.max(1, Math.min(MOST_STRETCHES, pad.length));
            for (int i = 0; i < stretches; i++) {
                signs[i] = pad.signAt(i);
                ground[i] = Ground.sortOf(signs[i]);
            }
        }

        int corners() {
            return stretchesOf(Ground.CORNER);
        }

        int bumps() {
            return stretchesOf(Ground.BUMP);
        }

        private int stretchesOf(int sort) {
            int many = 0;
            for (int i = 0; i < stretches; i++) {
                if (ground[i] == sort) many++;
            }
            return many;
        }

        int secondsTogether(int treads) {
            int seconds = 0;
            for (int i = 0; i < stretches; i++) seconds += Ground.secondsOf(Ground.hardOf(ground[i]), treads);
            return seconds;
        }

        int secondsAlone(int treads) {
            int seconds = 0;
            for (int i = 0; i < stretches; i++) seconds += Ground.secondsOf(Ground.hardOf(ground[i]) / 2, treads);
            return seconds;
        }

        void addTime(int rider, int sort, int effort, int seconds) {
            if (times < 0 || times >= MOST_TIMES) return;
            timeRider[times] = rider;
            timeSort[times] = sort;
            timeEffort[times] = effort;
            timeSeconds[times] = seconds;
            times++;
        }

        boolean timesHold(int rider, int strength) {
            for (int i = 0; i < times; i++) {
                if (timeRider[i] != rider) continue;
                int hard = Ground.hardOf(timeSort[i]) / 2;
                if (Ground.secondsOf(hard, timeEffort[i] * strength) != timeSeconds[i]) return false;
            }
            return true;
        }
    }

    /** A plan as rows, a place for each stretch. */
    private static final class Plan {
        private static final int REST = 'R', ZERO = '0', LEAST_LETTER = 'a';

        final boolean[] rest = new boolean[MOST_STRETCHES];
        final int[] effortFront = new int[MOST_STRETCHES];
        final int[] effortBack = new int[MOST_STRETCHES];
        final int[] beat = new int[MOST_STRETCHES];

        /** Reads the pad into the rows: the fault, or NONE. Behind the last sign nothing fits: the fault is there. */
        int read(Pad pad, int stretches) {
            int place = 0;
            for (int i = 0; i < stretches; i++) {
                rest[i] = pad.signAt(place) == REST;
                if (rest[i]) place++;
                effortFront[i] = pad.signAt(place) - ZERO;
                if (!isEffort(effortFront[i])) return place;
                place++;
                effortBack[i] = pad.signAt(place) - ZERO;
                if (!isEffort(effortBack[i])) return place;
                place++;
                beat[i] = pad.signAt(place) - LEAST_LETTER + LEAST_BEAT;
                if (!isWithin(beat[i], LEAST_BEAT, MOST_BEAT)) return place;
                place++;
            }
            return place < pad.length ? place : NONE;
        }

        boolean restsIn(int stretches) {
            for (int i = 0; i < stretches; i++) {
                if (rest[i]) return true;
            }
            return false;
        }
    }

    /** A plan as it is ridden: how it stands behind each stretch, up to the first that can not be. */
    private static final class Ride {
        private static final int FRONT_SPENT = 1, BACK_SPENT = 2, TOO_HOT = 3;

        final int[] seconds = new int[MOST_STRETCHES];
        final int[] windFront = new int[MOST_STRETCHES];
        final int[] windBack = new int[MOST_STRETCHES];
        final int[] heat = new int[MOST_STRETCHES];
        int stuckAt;
        int reason;
        int treadsFront;
        int treadsBack;
        int unseenBits;

        /** Rides the plan, with one rest more ahead of a stretch unless that is NO_REST. */
        void go(Setup setup, Plan plan, int restMore) {
            Rider front = setup.riderInFront();
            Rider back = setup.riderInBack();
            int spent = 0;
            int wf = front.wind;
            int wb = back.wind;
            int hot = 0;
            start();
            for (int i = 0; i < setup.stretches; i++) {
                if (plan.rest[i] || i == restMore) {
                    spent += setup.pause;
                    wf = front.wind;
                    wb = back.wind;
                    hot = 0;
                }
                wf = Rider.windBehind(front.wind, wf, plan.effortFront[i]);
                wb = Rider.windBehind(back.wind, wb, plan.effortBack[i]);
                hot = Ground.heatBehind(hot, setup.ground[i]);
                reason = reasonAgainst(wf, wb, hot, setup.hottest);
                if (reason != NONE) {
                    stuckAt = i;
                    return;
                }
                int byFront = front.treads(plan.effortFront[i], plan.beat[i]);
                int byBack = back.treads(plan.effortBack[i], plan.beat[i]);
                int took = Ground.secondsOf(Ground.hardOf(setup.ground[i]), byFront + byBack);
                int tookAlone = Ground.secondsOf(Ground.hardOf(setup.ground[i]), byFront);
                if (took == tookAlone) unseenBits |= 1 << i;
                treadsFront += byFront;
                treadsBack += byBack;
                spent += took;
                seconds[i] = spent;
                windFront[i] = wf;
                windBack[i] = wb;
                heat[i] = hot;
            }
        }

        private void start() {
            stuckAt = NONE;
            reason = NONE;
            treadsFront = 0;
            treadsBack = 0;
            unseenBits = 0;
        }

        private static int reasonAgainst(int wf, int wb, int hot, int hottest) {
            if (wf < 0) return FRONT_SPENT;
            if (wb < 0) return BACK_SPENT;
            return hot > hottest ? TOO_HOT : NONE;
        }
    }

    /** Seeks the soonest plan and the fewest calls; its rows are made once and used again. */
    private static final class Search {
        private static final int WINDS = MOST_WIND + 1;
        private static final int HEATS = MOST_HOTTEST + 1;

        int fewest;
        int firstStretch;

        private final int[] pairTreads = new int[PAIRS_OF_EFFORTS];
        private final int[] choiceFront = new int[PAIRS_OF_EFFORTS];
        private final int[] choiceBack = new int[PAIRS_OF_EFFORTS];
        private final int[] choiceSeconds = new int[PAIRS_OF_EFFORTS];
        private int choices;
        private final int[] heatBits = new int[MOST_STRETCHES + 1];
        private int[] onward = new int[HEATS * WINDS * WINDS];
        private int[] spare = new int[HEATS * WINDS * WINDS];
        private int[] callsBySore = new int[MOST_SORE + 1];
        private int[] callsBehind = new int[MOST_SORE + 1];
        private int hottest;
        private int mostFront;
        private int mostBack;

        /**
         * From the last stretch to the first: the fewest seconds from there on, by heat and both winds
         * ahead of the stretch.
         */
        void seek(Setup setup, Rider front, Rider back) {
            hottest = setup.hottest;
            mostFront = front.wind;
            mostBack = back.wind;
            for (int pair = 0; pair < PAIRS_OF_EFFORTS; pair++) {
                pairTreads[pair] = mostTreads(front, pair / EFFORTS, back, pair % EFFORTS);
            }
            findHeats(setup);
            for (int cell = 0; cell < onward.length; cell++) onward[cell] = 0;
            for (int i = setup.stretches - 1; i >= 1; i--) stepAhead(setup.ground[i], heatBits[i], setup.pause);
            int pair = chooseFirst(setup.ground[0]);
            if (pair == NONE) {
                firstStretch = NONE;
            } else {
                int beat = leastBeatFor(pair, Ground.hardOf(setup.ground[0]), front, back);
                firstStretch = 100 * (pair / EFFORTS) + 10 * (pair % EFFORTS) + beat - LEAST_BEAT;
            }
        }

        /** The heats that any plan can have ahead of each stretch, as bits: few of all, so the search is short. */
        private void findHeats(Setup setup) {
            heatBits[0] = 1;
            for (int i = 0; i < setup.stretches; i++) {
                int bits = 0;
                for (int heat = 0; heat <= hottest; heat++) {
                    // Heat 0 stands for a rest, too, which may come ahead of any stretch.
                    if (heat != 0 && (heatBits[i] >> heat & 1) == 0) continue;
                    int behind = Ground.heatBehind(heat, setup.ground[i]);
                    if (behind <= hottest) bits |= 1 << behind;
                }
                heatBits[i + 1] = bits;
            }
        }

        /** Makes the seconds from a stretch on, for the heats told as bits, out of those from the next one on. */
        private void stepAhead(int sort, int heats, int pause) {
            listChoices(Ground.hardOf(sort));
            int rested = pause + fewestOnward(Ground.heatBehind(0, sort), mostFront, mostBack, FAR);
            for (int heat = 0; heat <= hottest; heat++) {
                if ((heats >> heat & 1) == 0) continue;
                int behind = Ground.heatBehind(heat, sort);
                for (int wf = 0; wf <= mostFront; wf++) {
                    for (int wb = 0; wb <= mostBack; wb++) {
                        spare[cellOf(heat, wf, wb)] = fewestOnward(behind, wf, wb, rested);
                    }
                }
            }
            int[] made = spare;
            spare = onward;
            onward = made;
        }

        /**
         * Keeps the pairs of efforts that are worth a thought: not those by which one treads harder than by
         * another that takes no longer, as more wind is never worse.
         */
        private void listChoices(int hard) {
            choices = 0;
            for (int pair = 0; pair < PAIRS_OF_EFFORTS; pair++) {
                int seconds = Ground.secondsOf(hard, pairTreads[pair]);
                if (pair >= EFFORTS && Ground.secondsOf(hard, pairTreads[pair - EFFORTS]) == seconds) continue;
                if (pair % EFFORTS > 0 && Ground.secondsOf(hard, pairTreads[pair - 1]) == seconds) continue;
                choiceFront[choices] = pair / EFFORTS;
                choiceBack[choices] = pair % EFFORTS;
                choiceSeconds[choices] = seconds;
                choices++;
            }
        }

        /** The fewest seconds, at most the limit, from winds ahead of a stretch whose heat behind it is told. */
        private int fewestOnward(int heatBehind, int wf, int wb, int limit) {
            if (heatBehind > hottest) return limit;
            int least = limit;
            for (int c = 0; c < choices; c++) {
                int nextFront = Rider.windBehind(mostFront, wf, choiceFront[c]);
                int nextBack = Rider.windBehind(mostBack, wb, choiceBack[c]);
                if (nextFront < 0 || nextBack < 0) continue;
                least = Math.min(least, choiceSeconds[c] + onward[cellOf(heatBehind, nextFront, nextBack)]);
            }
            return least;
        }

        private static int cellOf(int heat, int wf, int wb) {
            return (heat * WINDS + wf) * WINDS + wb;
        }

        /**
         * Finds the fewest seconds, and the least pair of efforts on the first stretch that comes to them; NONE if
         * none does. No rest can help ahead of it: both have their most wind and nothing is hot.
         */
        private int chooseFirst(int sort) {
            int hard = Ground.hardOf(sort);
            int heat = Ground.heatBehind(0, sort);
            int chosen = NONE;
            fewest = NONE;
            for (int pair = 0; pair < PAIRS_OF_EFFORTS; pair++) {
                int wf = Rider.windBehind(mostFront, mostFront, pair / EFFORTS);
                int wb = Rider.windBehind(mostBack, mostBack, pair % EFFORTS);
                if (wf < 0 || wb < 0 || heat > hottest) continue;
                int seconds = Ground.secondsOf(hard, pairTreads[pair]) + onward[cellOf(heat, wf, wb)];
                if (chosen == NONE || seconds < fewest) {
                    fewest = seconds;
                    chosen = pair;
                }
            }
            return chosen;
        }

        /** The least beat at which a pair of efforts takes no longer than at its best. */
        private int leastBeatFor(int pair, int hard, Rider front, Rider back) {
            int seconds = Ground.secondsOf(hard, pairTreads[pair]);
            for (int beat = LEAST_BEAT; beat < MOST_BEAT; beat++) {
                int treads = front.treads(pair / EFFORTS, beat) + back.treads(pair % EFFORTS, beat);
                if (Ground.secondsOf(hard, treads) == seconds) return beat;
            }
            return MOST_BEAT;
        }

        /**
         * The fewest calls above the bits of which stretches, as one number, so that the least of the numbers
         * is of the fewest calls and of these the least as bits.
         */
        int fewestCalls(Setup setup, int mostSore) {
            for (int sore = 0; sore <= mostSore; sore++) callsBySore[sore] = sore == 0 ? 0 : FAR;
            for (int i = 0; i < setup.stretches; i++) {
                int sort = setup.ground[i];
                boolean callable = sort == Ground.CORNER || sort == Ground.BUMP;
                for (int sore = 0; sore <= mostSore; sore++) callsBehind[sore] = FAR;
                for (int sore = 0; sore <= mostSore; sore++) {
                    if (callsBySore[sore] == FAR) continue;
                    int uncalled = Ground.soreBehind(sore, sort);
                    if (uncalled <= mostSore) keepFewer(uncalled, callsBySore[sore]);
                    if (callable) keepFewer(sore, callsBySore[sore] + (1 << MOST_STRETCHES) + (1 << i));
                }
                int[] made = callsBehind;
                callsBehind = callsBySore;
                callsBySore = made;
            }
            int least = FAR;
            for (int sore = 0; sore <= mostSore; sore++) least = Math.min(least, callsBySore[sore]);
            return least;
        }

        private void keepFewer(int sore, int calls) {
            callsBehind[sore] = Math.min(callsBehind[sore], calls);
        }
    }
}
