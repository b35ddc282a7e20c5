/** Objects that several tests begin with. */
final class Made {
    /** FRONT treads 5 at its beat 5, BACK 10 at its beat 10. */
    static TandemRide two(String way) {
        TandemRide x = new TandemRide();
        x.rider(0, 5, 5, 9, 30);
        x.rider(1, 10, 10, 9, 50);
        Check.takeWay(x, way);
        return x;
    }

    /** Four riders of one strength who like one beat, all with the most wind. */
    static TandemRide four(int strength, int likes) {
        TandemRide x = new TandemRide();
        for (int r = 0; r < 4; r++) x.rider(r, strength, likes, 9, 0);
        return x;
    }

    /** One in which much stands: riders, seats, settings, times, an image 0 of another state, a plan on the pad. */
    static TandemRide rich() {
        TandemRide x = new TandemRide();
        x.rider(0, 3, 4, 1, 2);
        x.time(0, 3, 2, 1);
        x.image(0);
        for (int r = 0; r < 4; r++) x.rider(r, 5 + 2 * r, 5 + r, 9 - r, 10 * r);
        x.seat(2, 1);
        x.set(0, 11);
        x.set(1, 7);
        x.set(2, 3);
        x.time(2, 1, 2, 5);
        Check.takeWay(x, ".c~");
        Check.say(x, "12dR21e11a");
        return x;
    }

    /** The same with a way on the pad. */
    static TandemRide richWithWay() {
        TandemRide x = rich();
        Check.pad(x, "uUc");
        return x;
    }

    private Made() { }
}
