import java.util.LinkedHashMap;
import java.util.Map;

/**
 * All that an object tells of itself, so that two can be held side by side. A look takes at most some 350 calls of
 * the 512 that an object is promised for, and leaves the object other than it was.
 */
final class Look {
    private final TandemRide x;
    private final Map<String, Long> seen = new LinkedHashMap<>();

    private Look(TandemRide x) {
        this.x = x;
    }

    /** The first thing that one tells otherwise than the other; empty if there is none. */
    static String firstChange(TandemRide before, TandemRide after) {
        Map<String, Long> was = of(before);
        Map<String, Long> is = of(after);
        for (Map.Entry<String, Long> e : was.entrySet()) {
            if (!e.getValue().equals(is.get(e.getKey()))) {
                return e.getKey() + " from " + e.getValue() + " to " + is.get(e.getKey());
            }
        }
        return "";
    }

    private static Map<String, Long> of(TandemRide x) {
        Look look = new Look(x);
        look.kept("");
        look.plan();
        look.riders();
        look.see("restore(0)", x.restore(0));
        look.kept("restored from 0: ");
        look.see("restore(1)", x.restore(1));
        look.kept("restored from 1: ");
        look.pad();
        return look.seen;
    }

    private void see(String call, long answer) {
        seen.put(call, answer);
    }

    /** What an image keeps, and how many signs there are. */
    private void kept(String when) {
        for (int what = 0; what < 9; what++) see(when + "told(" + what + ")", x.told(what));
        for (int r = 0; r < 4; r++) {
            for (int i = 0; i < 4; i++) see(when + "told(" + (10 * r + 10 + i) + ")", x.told(10 * r + 10 + i));
            for (int i = 0; i < 3; i++) see(when + "strong(" + r + ", " + i + ")", x.strong(r, i));
        }
        for (int i = 0; i < x.told(7); i++) see(when + "told(" + (100 + i) + ")", x.told(100 + i));
    }

    private void plan() {
        for (int how = 0; how < 2; how++) see("fault(" + how + ")", x.fault(how));
        for (int what = 0; what < 2; what++) see("judge(" + what + ")", x.judge(what));
        for (int what = 0; what < 4; what++) see("ridden(-1, " + what + ")", x.ridden(-1, what));
        for (int part = 0; part < 2; part++) see("share(" + part + ")", x.share(part));
        see("unseen()", x.unseen());
        see("worth()", x.worth());
        see("quarrel(3)", x.quarrel(3));
        see("home(3, 70, 0)", x.home(3, 70, 0));
        see("mean(3, 0)", x.mean(3, 0));
    }

    private void riders() {
        for (int what = 0; what < 2; what++) {
            see("soonest(" + what + ")", x.soonest(what));
            see("calls(2, " + what + ")", x.calls(2, what));
            see("bestPair(" + what + ")", x.bestPair(what));
        }
        for (int what = 0; what < 4; what++) see("oneBeat(1, 2, " + what + ")", x.oneBeat(1, 2, what));
        for (int r = 0; r < 4; r++) see("single(" + r + ", 2)", x.single(r, 2));
        see("uneven(1, 2, 3)", x.uneven(1, 2, 3));
        see("year(7, 3, 0)", x.year(7, 3, 0));
    }

    /** The signs themselves, if they are a way. */
    private void pad() {
        see("way()", x.way());
        for (int i = 0; i < x.told(7); i++) see("as way, told(" + (100 + i) + ")", x.told(100 + i));
        see("wipe()", x.wipe());
    }
}
