/** Counts the answers that are not as due, and ends a test. */
final class Check {
    private int asked = 0;
    private int wrong = 0;
    private String promise = "";

    /** Names the promise that the next answers belong to. */
    void promise(String name) {
        promise = name;
    }

    void due(String call, long got, long want) {
        asked++;
        if (got != want) {
            wrong++;
            System.out.println(promise + ": " + call + " answered " + got + ", due is " + want);
        }
    }

    void due(String what, boolean holds) {
        due(what, holds ? 1 : 0, 1);
    }

    int wrong() {
        return wrong;
    }

    void end(String test) {
        System.out.println(test + ": " + asked + " answers, " + wrong + " not as due");
        if (wrong != 0 || asked == 0) System.exit(1);
    }

    /** Says each sign of a text. */
    static void say(TandemRide x, String text) {
        for (int i = 0; i < text.length(); i++) x.say(text.charAt(i));
    }

    /** Makes a text the way, whatever the pad held. */
    static void takeWay(TandemRide x, String text) {
        x.wipe();
        say(x, text);
        x.way();
    }

    /** Makes a text the pad's, whatever it held. */
    static void pad(TandemRide x, String text) {
        x.wipe();
        say(x, text);
    }
}
