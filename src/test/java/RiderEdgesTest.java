/**
 * Promises 1 to 10 at their edges: the least and the most of a rider, an empty and a full pad, ways and plans of one
 * stretch and of 24, each sign at each place.
 */
public final class RiderEdgesTest {
    private static final int UNKNOWN = -1, OUTSIDE = -2, FULL = -4, NO = -5, NONE = -6;
    private static final int LEAST_SIGN = 33, MOST_SIGN = 126;
    private static final Check CHECK = new Check();

    public static void main(String[] args) {
        nothingIsShared();
        leastAndMostRider();
        nobodyAndAllFour();
        aRiderAnew();
        seats();
        settings();
        emptyPad();
        fullPad();
        signsThatWent();
        leastAndMostSign();
        signsOfAWay();
        lengthOfAWay();
        signsOfAPlan();
        lengthOfAPlan();
        anotherWay();
        longestPlanByCalls();
        treadIsCut();
        farBeats();
        CHECK.end("RiderEdgesTest");
    }

    private static void due(String call, long got, long want) {
        CHECK.due(call, got, want);
    }

    private static void nothingIsShared() {
        CHECK.promise("1 a new object is new, whatever was done with another");
        TandemRide other = Made.rich();
        TandemRide x = new TandemRide();
        other.say('9');
        other.image(1);
        due("told(0)", x.told(0), 0);
        due("told(1)", x.told(1), 0);
        due("told(7)", x.told(7), 1);
        due("told(100)", x.told(100), '.');
        due("told(8)", x.told(8), 0);
        due("restore(0)", x.restore(0), -3);
        due("restore(1)", x.restore(1), -3);
        x.rider(0, 20, 10, 9, 50);
        x.say('x');
        due("told(10) of the other", other.told(10), 5);
        due("told(0) of the other", other.told(0), 11);
        CHECK.promise("1 nobody is there");
        x = new TandemRide();
        for (int r = 0; r < 4; r++) {
            due("tread(" + r + ", 1, 4)", x.tread(r, 1, 4), UNKNOWN);
            due("leave(" + r + ")", x.leave(r), UNKNOWN);
        }
        CHECK.promise("1 THE WAY is one flat stretch");
        x.rider(0, 1, 4, 1, 0);
        due("single(0, 0)", x.single(0, 0), 31);
        due("calls(0, 0)", x.calls(0, 0), 0);
        Check.say(x, "00a");
        due("fault(1)", x.fault(1), NONE);
        CHECK.promise("1 FRONT and BACK are 0 and 1 at first");
        due("judge(0) with 0 alone", x.judge(0), -3);
        x.rider(1, 1, 4, 1, 0);
        due("judge(0) with 0 and 1", x.judge(0), NONE);
    }

    private static void riderIs(TandemRide x, int r, int... want) {
        for (int i = 0; i < want.length; i++) due("told(" + (10 * r + 10 + i) + ")", x.told(10 * r + 10 + i), want[i]);
    }

    private static void leastAndMostRider() {
        CHECK.promise("2 the least and the most of a RIDER");
        TandemRide x = new TandemRide();
        for (int r = 0; r < 4; r++) {
            due("rider(" + r + ", 1, 4, 1, 0)", x.rider(r, 1, 4, 1, 0), r + 1);
            riderIs(x, r, 1, 4, 1, 0, OUTSIDE);
            due("rider(" + r + ", 20, 10, 9, 50)", x.rider(r, 20, 10, 9, 50), r + 1);
            riderIs(x, r, 20, 10, 9, 50, OUTSIDE);
        }
        CHECK.promise("2 each number is kept by itself");
        x.rider(0, 2, 5, 3, 4);
        x.rider(3, 6, 7, 8, 9);
        riderIs(x, 0, 2, 5, 3, 4);
        riderIs(x, 1, 20, 10, 9, 50);
        riderIs(x, 3, 6, 7, 8, 9);
    }

    private static void nobodyAndAllFour() {
        CHECK.promise("2, 3 how many are there, from nobody to all four and back");
        TandemRide x = new TandemRide();
        int[] order = {2, 0, 3, 1};
        int[] bits = {4, 5, 13, 15};
        for (int i = 0; i < 4; i++) {
            due("rider(" + order[i] + ", ..)", x.rider(order[i], 5, 5, 5, 5), i + 1);
            due("told(1)", x.told(1), bits[i]);
        }
        for (int r = 0; r < 4; r++) due("rider(" + r + ", ..) anew", x.rider(r, 5, 5, 5, 5), 4);
        for (int i = 0; i < 4; i++) {
            due("leave(" + order[i] + ")", x.leave(order[i]), 3 - i);
            due("told(1)", x.told(1), 15 - bits[i]);
            due("leave(" + order[i] + ") again", x.leave(order[i]), UNKNOWN);
            due("told(1) still", x.told(1), 15 - bits[i]);
            riderIs(x, order[i], OUTSIDE, OUTSIDE, OUTSIDE, OUTSIDE);
        }
    }

    private static void aRiderAnew() {
        CHECK.promise("2 or anew: all of the RIDER is anew");
        TandemRide x = new TandemRide();
        x.rider(1, 20, 10, 9, 50);
        due("rider(1, 1, 4, 1, 0)", x.rider(1, 1, 4, 1, 0), 1);
        riderIs(x, 1, 1, 4, 1, 0);
        due("tread(1, 4, 4)", x.tread(1, 4, 4), 4);
        x.leave(1);
        due("rider(1, 2, 5, 2, 1) who had left", x.rider(1, 2, 5, 2, 1), 1);
        riderIs(x, 1, 2, 5, 2, 1);
    }

    private static void seats() {
        CHECK.promise("4 all twos, one in FRONT");
        TandemRide x = Made.four(1, 4);
        for (int f = 0; f < 4; f++) {
            for (int b = 0; b < 4; b++) {
                due("seat(" + f + ", " + b + ")", x.seat(f, b), f == b ? UNKNOWN : 1);
                if (f == b) continue;
                due("told(2)", x.told(2), f);
                due("told(3)", x.told(3), b);
            }
        }
        CHECK.promise("4 FRONT and BACK may change places");
        x.seat(0, 1);
        due("seat(1, 0)", x.seat(1, 0), 1);
        due("told(2)", x.told(2), 1);
        due("told(3)", x.told(3), 0);
        CHECK.promise("4 a refused FRONT is not half taken, nor a refused BACK");
        x.leave(3);
        due("seat(2, 3)", x.seat(2, 3), UNKNOWN);
        due("seat(3, 2)", x.seat(3, 2), UNKNOWN);
        due("told(2)", x.told(2), 1);
        due("told(3)", x.told(3), 0);
    }

    private static void settings() {
        CHECK.promise("5 which it was");
        int[] first = {10, 60, 10}, least = {5, 0, 0}, most = {20, 99, 50};
        for (int which = 0; which < 3; which++) {
            TandemRide x = new TandemRide();
            due("set(" + which + ", least)", x.set(which, least[which]), first[which]);
            due("set(" + which + ", least) again", x.set(which, least[which]), least[which]);
            due("set(" + which + ", most)", x.set(which, most[which]), least[which]);
            due("set(" + which + ", too much)", x.set(which, most[which] + 1), OUTSIDE);
            due("set(" + which + ", too little)", x.set(which, least[which] - 1), OUTSIDE);
            due("set(" + which + ", least)", x.set(which, least[which]), most[which]);
            for (int other = 0; other < 3; other++) {
                due("told(" + (4 + other) + ")", x.told(4 + other), other == which ? least[which] : first[other]);
            }
        }
    }

    private static void emptyPad() {
        CHECK.promise("7 to 9 the empty PAD");
        TandemRide x = Made.two("ud");
        due("told(0)", x.told(0), 0);
        due("wipe()", x.wipe(), 0);
        due("fault(0), as one sign must come", x.fault(0), 0);
        due("fault(1), as signs must come", x.fault(1), 0);
        due("way()", x.way(), NO);
        due("told(7)", x.told(7), 2);
        due("told(0)", x.told(0), 0);
        due("say('u')", x.say('u'), 1);
        due("way() empties it", x.way(), 1);
        due("told(0)", x.told(0), 0);
        due("way() of nothing again", x.way(), NO);
        due("told(7)", x.told(7), 1);
    }

    private static void fullPad() {
        CHECK.promise("6, 7 the full PAD");
        TandemRide x = new TandemRide();
        for (int i = 1; i <= 109; i++) x.say('c');
        due("told(0)", x.told(0), 109);
        due("say, the last that is taken", x.say('~'), 110);
        due("say, the first that is refused", x.say('~'), FULL);
        due("say, the next", x.say('~'), FULL);
        due("told(0)", x.told(0), 110);
        due("fault(0)", x.fault(0), 24);
        due("fault(1)", x.fault(1), 0);
        due("way()", x.way(), NO);
        due("told(0) behind way()", x.told(0), 110);
        due("told(7) behind way()", x.told(7), 1);
        due("wipe()", x.wipe(), 110);
        due("wipe() again", x.wipe(), 0);
        due("say when it is wiped", x.say('c'), 1);
        due("way()", x.way(), 1);
        due("told(100)", x.told(100), 'c');
    }

    /** The sign behind the last would make each of these texts whole, or faulty, if it still counted. */
    private static void signsThatWent() {
        CHECK.promise("7 signs that were wiped are not there");
        TandemRide x = new TandemRide();
        Check.say(x, "22b");
        x.wipe();
        Check.say(x, "22");
        due("fault(1) of 22, behind 22b", x.fault(1), 2);
        x.wipe();
        Check.say(x, "2");
        due("fault(1) of 2, behind 22", x.fault(1), 1);
        x.wipe();
        Check.say(x, "..x");
        x.wipe();
        Check.say(x, "..");
        due("fault(0) of .., behind ..x", x.fault(0), TandemRide.NONE);
        CHECK.promise("9 signs that became THE WAY are not there");
        due("way()", x.way(), 2);
        due("fault(0) of the empty PAD", x.fault(0), 0);
        x.wipe();
        Check.say(x, ".u");
        due("way() of .u", x.way(), 2);
        Check.say(x, ".");
        due("way() of .", x.way(), 1);
        due("told(101)", x.told(101), TandemRide.OUTSIDE);
    }

    private static void leastAndMostSign() {
        CHECK.promise("6 the codes 33 and 126");
        TandemRide x = new TandemRide();
        due("say(126)", x.say(126), 1);
        due("say(127)", x.say(127), OUTSIDE);
        due("say(32)", x.say(32), OUTSIDE);
        due("told(0)", x.told(0), 1);
        due("way()", x.way(), 1);
        due("told(100)", x.told(100), 126);
        due("say(33)", x.say(33), 1);
        due("fault(0)", x.fault(0), 0);
        CHECK.promise("6 every code of 33 to 126 is taken");
        x.wipe();
        for (int sign = LEAST_SIGN; sign <= MOST_SIGN; sign++) due("say(" + sign + ")", x.say(sign), sign - 32);
    }

    private static void signsOfAWay() {
        CHECK.promise("8, 9 the signs of a WAY: . u U d D c ~ and no other");
        for (int sign = LEAST_SIGN; sign <= MOST_SIGN; sign++) {
            boolean stands = ".uUdDc~".indexOf(sign) >= 0;
            TandemRide x = new TandemRide();
            x.say(sign);
            due("fault(0) of " + (char) sign, x.fault(0), stands ? NONE : 0);
            due("way() of " + (char) sign, x.way(), stands ? 1 : NO);
            due("told(0)", x.told(0), stands ? 0 : 1);
            due("told(100)", x.told(100), stands ? sign : '.');
            Check.pad(x, "c~");
            x.say(sign);
            due("fault(0) of c~" + (char) sign, x.fault(0), stands ? NONE : 2);
        }
    }

    private static void lengthOfAWay() {
        CHECK.promise("8, 9 a WAY of 1 to 24 signs");
        for (int many = 0; many <= 26; many++) {
            TandemRide x = new TandemRide();
            Check.say(x, "uD".repeat(13).substring(0, many));
            boolean stands = many >= 1 && many <= 24;
            due("fault(0) of " + many, x.fault(0), stands ? NONE : many == 0 ? 0 : 24);
            due("way() of " + many, x.way(), stands ? many : NO);
            due("told(7)", x.told(7), stands ? many : 1);
            due("told(0)", x.told(0), stands ? 0 : many);
            for (int i = 0; i < 24 && stands; i++) {
                due("told(" + (100 + i) + ")", x.told(100 + i), i >= many ? OUTSIDE : i % 2 == 0 ? 'u' : 'D');
            }
        }
        CHECK.promise("8 the first sign that can not stand there is told, not a later one");
        TandemRide x = new TandemRide();
        Check.say(x, "c".repeat(23) + "xxx");
        due("fault(0) of a wrong 24th sign", x.fault(0), 23);
        Check.pad(x, "c".repeat(24) + "cx");
        due("fault(0) of a 25th sign", x.fault(0), 24);
        Check.pad(x, "xcxc");
        due("fault(0) of a wrong first sign", x.fault(0), 0);
        CHECK.promise("9 a shorter WAY leaves nothing of the longer one");
        Check.takeWay(x, "D".repeat(24));
        Check.takeWay(x, "u");
        due("told(7)", x.told(7), 1);
        due("told(100)", x.told(100), 'u');
        due("told(101)", x.told(101), OUTSIDE);
    }

    /** Whether a sign fits at one of the four places of a stretch: R, two digits, a letter. */
    private static boolean fits(int place, int sign) {
        boolean digit = sign >= '0' && sign <= '4';
        if (place == 0) return digit || sign == 'R';
        return place == 3 ? sign >= 'a' && sign <= 'g' : digit;
    }

    private static void signsOfAPlan() {
        CHECK.promise("8 the signs of a PLAN: perhaps R, two digits 0 to 4, a letter a to g");
        String plan = "R04g";
        for (int place = 0; place < 4; place++) {
            for (int sign = LEAST_SIGN; sign <= MOST_SIGN; sign++) {
                signInAPlan("", plan.substring(0, place), place, sign);
                signInAPlan("40a", plan.substring(0, place), place, sign);
            }
        }
    }

    /** The sign behind so much of a plan; of two stretches, if there is one ahead. */
    private static void signInAPlan(String ahead, String part, int place, int sign) {
        TandemRide x = Made.two(ahead.isEmpty() ? "." : "..");
        Check.say(x, ahead + part);
        x.say(sign);
        int at = ahead.length() + place;
        boolean whole = place == 3 && fits(place, sign);
        due("fault(1) of " + ahead + part + (char) sign, x.fault(1), whole ? NONE : fits(place, sign) ? at + 1 : at);
    }

    private static void lengthOfAPlan() {
        CHECK.promise("8 a PLAN has as many stretches as THE WAY, no fewer, no more");
        for (int many = 1; many <= 24; many += many == 3 ? 20 : 1) {
            TandemRide x = Made.two("~".repeat(many));
            Check.say(x, "22d".repeat(many - 1) + "22");
            due("fault(1) of one sign less than " + many, x.fault(1), 3 * many - 1);
            x.say('d');
            due("fault(1) of " + many, x.fault(1), NONE);
            String more = "R0a.";
            for (int i = 0; i < more.length(); i++) {
                x.say(more.charAt(i));
                due("fault(1) of " + (i + 1) + " signs more", x.fault(1), 3 * many);
            }
        }
        CHECK.promise("8 an R with no stretch behind it can not stand");
        TandemRide x = Made.two(".");
        Check.say(x, "R22dR");
        due("fault(1)", x.fault(1), 4);
        CHECK.promise("8 the first sign that can not stand is told, though others follow");
        x = Made.two("..");
        Check.say(x, "225RR9x");
        due("fault(1)", x.fault(1), 2);
    }

    private static void anotherWay() {
        CHECK.promise("8 THE FAULT of a PLAN is by THE WAY that is there");
        TandemRide x = Made.two(".");
        Check.say(x, "22d22d");
        due("fault(1)", x.fault(1), 3);
        x = Made.two("..");
        Check.say(x, "22d22d");
        due("fault(1)", x.fault(1), NONE);
        x = Made.two("...");
        Check.say(x, "22d22d");
        due("fault(1)", x.fault(1), 6);
        CHECK.promise("8 THE FAULT needs no RIDER");
        x = new TandemRide();
        Check.say(x, "22d");
        due("fault(1)", x.fault(1), NONE);
        due("fault(0)", x.fault(0), 0);
    }

    private static void longestPlanByCalls() {
        CHECK.promise("6, 8, 12 the longest WAY and PLAN, and 110 signs, within 512 calls");
        TandemRide x = new TandemRide();
        int calls = 0;
        for (int i = 0; i < 110; i++, calls++) x.say('R');
        due("wipe()", x.wipe(), 110);
        x.rider(0, 1, 4, 9, 0);
        x.rider(1, 1, 4, 9, 0);
        for (int i = 0; i < 24; i++, calls++) x.say('U');
        due("way()", x.way(), 24);
        for (int i = 0; i < 96; i++, calls++) x.say("R22a".charAt(i % 4));
        due("fault(1)", x.fault(1), NONE);
        x.set(1, 99);
        calls += 6;
        for (int m = 0; m < 24; m++, calls++) due("ridden(" + m + ", 0)", x.ridden(m, 0), (m + 1) * (99 + 49));
        for (; calls < 510; calls++) due("told(123)", x.told(123), 'U');
        due("ridden(-1, 0), the 511th call", x.ridden(-1, 0), 24 * 148);
        due("told(7), the 512th call", x.told(7), 24);
    }

    private static void treads(TandemRide x, int effort, int... byBeat) {
        for (int beat = 4; beat <= 10; beat++) {
            due("tread(0, " + effort + ", " + beat + ")", x.tread(0, effort, beat), byBeat[beat - 4]);
        }
    }

    private static void treadIsCut() {
        CHECK.promise("10 TREAD by 10, cut");
        TandemRide x = new TandemRide();
        x.rider(0, 1, 4, 1, 0);
        treads(x, 0, 0, 0, 0, 0, 0, 0, 0);
        treads(x, 1, 1, 0, 0, 0, 0, 0, 0);
        treads(x, 2, 2, 1, 1, 1, 1, 1, 0);
        treads(x, 3, 3, 2, 2, 2, 1, 1, 1);
        treads(x, 4, 4, 3, 3, 2, 2, 2, 1);
        x.rider(0, 20, 10, 1, 0);
        treads(x, 0, 0, 0, 0, 0, 0, 0, 0);
        treads(x, 1, 8, 10, 12, 14, 16, 18, 20);
        treads(x, 4, 32, 40, 48, 56, 64, 72, 80);
        x.rider(0, 7, 7, 1, 0);
        treads(x, 3, 14, 16, 18, 21, 18, 16, 14);
    }

    private static void farBeats() {
        CHECK.promise("10 TREAD is of the RIDER who is asked, seated or not");
        TandemRide x = Made.four(10, 4);
        x.rider(3, 10, 10, 1, 0);
        for (int r = 0; r < 3; r++) due("tread(" + r + ", 2, 10)", x.tread(r, 2, 10), 8);
        due("tread(3, 2, 10)", x.tread(3, 2, 10), 20);
        due("tread(3, 2, 4)", x.tread(3, 2, 4), 8);
    }
}
