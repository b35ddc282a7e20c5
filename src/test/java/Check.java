import java.util.function.Supplier;
import java.util.function.ToLongFunction;

/** Counts the answers that are not as due, and ends a test. */
final class Check {
    private static final int MOST_MINUTES = 20;

    private int asked = 0;
    private int wrong = 0;
    private String promise = "";

    Check() {
        endInTime();
    }

    /** A call that does not end is a fault, too: without this it would be a test that never ends. */
    private static void endInTime() {
        Thread watch = new Thread(() -> {
            try {
                Thread.sleep(MOST_MINUTES * 60000L);
            } catch (InterruptedException e) {
                return;
            }
            System.out.println("a call does not end");
            Runtime.getRuntime().halt(1);
        });
        watch.setDaemon(true);
        watch.start();
    }

    /** Names the promise, or the sentence of the document, that the next answers belong to. */
    void promise(String name) {
        promise = name;
    }

    void due(String call, long got, long want) {
        asked++;
        if (got != want) {
            wrong++;
            System.out.println(promise + ": " + call + " answered " + got + ", due is " + want);
        }
    }

    void due(String what, boolean holds) {
        due(what, holds ? 1 : 0, 1);
    }

    /** A call whose refusal is due: it answers so, and the object is as one that was not asked. */
    void refused(String call, Supplier<TandemRide> maker, ToLongFunction<TandemRide> ask, long refusal) {
        TandemRide x = maker.get();
        due(call, ask.applyAsLong(x), refusal);
        unchanged(call, x, maker);
    }

    /** A call that only asks: it is not refused, and the object is as one that was not asked. */
    void onlyAsks(String call, Supplier<TandemRide> maker, ToLongFunction<TandemRide> ask) {
        TandemRide x = maker.get();
        due(call + " is not refused", !isRefusal(ask.applyAsLong(x)));
        unchanged(call, x, maker);
    }

    private void unchanged(String call, TandemRide x, Supplier<TandemRide> maker) {
        String change = Look.firstChange(maker.get(), x);
        due(call + " changed " + change, change.isEmpty());
    }

    static boolean isRefusal(long answer) {
        return isCode(answer) || isCode(answer - TandemRide.GONE);
    }

    private static boolean isCode(long answer) {
        return answer >= TandemRide.NO && answer <= TandemRide.UNKNOWN;
    }

    int wrong() {
        return wrong;
    }

    void end(String test) {
        System.out.println(test + ": " + asked + " answers, " + wrong + " not as due");
        if (wrong != 0 || asked == 0) System.exit(1);
    }

    /** Says each sign of a text. */
    static void say(TandemRide x, String text) {
        for (int i = 0; i < text.length(); i++) x.say(text.charAt(i));
    }

    /** Makes a text the way, whatever the pad held. */
    static void takeWay(TandemRide x, String text) {
        x.wipe();
        say(x, text);
        x.way();
    }

    /** Makes a text the pad's, whatever it held. */
    static void pad(TandemRide x, String text) {
        x.wipe();
        say(x, text);
    }
}
