import java.util.Arrays;
import java.util.Random;

/** All that is set ahead of a ride, so that the same can be made anew: an object is promised for 512 calls only. */
record Scene(int[][] riders, int front, int back, int hottest, int pause, int calm, String way) {
    static final int STRENGTH = 0, LIKES = 1, WIND = 2, THINKS = 3;

    /** Four riders, of whom the strongest and the one of most wind may have so much. */
    static Scene drawn(Random draws, int mostStrength, int mostWind, String way) {
        int[][] riders = new int[4][];
        for (int r = 0; r < 4; r++) {
            riders[r] = new int[] {1 + draws.nextInt(mostStrength), 4 + draws.nextInt(7), 1 + draws.nextInt(mostWind),
                draws.nextInt(51)};
        }
        int front = draws.nextInt(4);
        int back = (front + 1 + draws.nextInt(3)) % 4;
        int pause = draws.nextBoolean() ? draws.nextInt(6) : draws.nextInt(100);
        return new Scene(riders, front, back, 5 + draws.nextInt(8), pause, draws.nextInt(20), way);
    }

    /** A text of so many signs, each one of those that are given. */
    static String text(Random draws, String signs, int many) {
        StringBuilder text = new StringBuilder();
        for (int i = 0; i < many; i++) text.append(signs.charAt(draws.nextInt(signs.length())));
        return text.toString();
    }

    Scene withWay(String other) {
        return new Scene(riders, front, back, hottest, pause, calm, other);
    }

    Scene seated(int inFront, int inBack) {
        return new Scene(riders, inFront, inBack, hottest, pause, calm, way);
    }

    Scene withHottest(int other) {
        return new Scene(riders, front, back, other, pause, calm, way);
    }

    Scene withMostWind() {
        int[][] others = new int[riders.length][];
        for (int r = 0; r < riders.length; r++) {
            others[r] = riders[r].clone();
            others[r][WIND] = 9;
        }
        return new Scene(others, front, back, hottest, pause, calm, way);
    }

    /** A new object in which all this stands, with a text on the pad. */
    TandemRide made(String pad) {
        TandemRide x = new TandemRide();
        for (int r = 0; r < 4; r++) {
            x.rider(r, riders[r][STRENGTH], riders[r][LIKES], riders[r][WIND], riders[r][THINKS]);
        }
        x.seat(front, back);
        x.set(0, hottest);
        x.set(1, pause);
        x.set(2, calm);
        Check.takeWay(x, way);
        Check.say(x, pad);
        return x;
    }

    @Override
    public String toString() {
        return Arrays.deepToString(riders) + ", front " + front + ", back " + back + ", hottest " + hottest
            + ", pause " + pause + ", calm " + calm + ", way " + way;
    }
}
