/**
 * Watches the tracks of aircraft by whole numbers, tells which two come too near,
 * and advises both how to part in height, each the other way.
 *
 * All objects are made in the constructor, since all calls of a run share one room.
 */
public final class SkyAdvisor {
    public static final int NONE = -1;

    private static final int AIRCRAFT_COUNT = 6;
    private static final int PAIR_COUNT = 15;
    private static final int MOST_SECONDS_A_STEP = 300;
    private static final int LAST_TOLD = 6;
    private static final int LAST_OF_PAIR = 10;
    private static final int LAST_OF_ALL = 4;

    private final Settings settings;
    private final Tally tally;
    private final Aircraft[] fleet;
    private final Pair[] pairs;

    public SkyAdvisor() {
        settings = new Settings();
        tally = new Tally();
        fleet = new Aircraft[AIRCRAFT_COUNT];
        for (int i = 0; i < AIRCRAFT_COUNT; i++) {
            fleet[i] = new Aircraft();
        }
        pairs = new Pair[PAIR_COUNT];
        int next = 0;
        for (int i = 0; i < AIRCRAFT_COUNT; i++) {
            for (int j = i + 1; j < AIRCRAFT_COUNT; j++) {
                pairs[next] = new Pair(fleet[i], fleet[j], settings, tally);
                next++;
            }
        }
    }

    public int set(int which, int v) throws IllegalArgumentException {
        if (!Settings.allows(which, v)) {
            throw new IllegalArgumentException("no such setting, or out of its range");
        }
        return settings.exchange(which, v);
    }

    public void place(int i, int x, int y, int z) throws IllegalArgumentException {
        if (!isNumber(i) || !Aircraft.isPlace(x, y, z)) {
            throw new IllegalArgumentException("no such number, or place");
        }
        Aircraft aircraft = fleet[i];
        aircraft.putAt(x, y, z);
        dropAdviceOf(aircraft);
        restartLeastOf(aircraft);
    }

    public void speed(int i, int vx, int vy, int vz) throws IllegalArgumentException {
        if (!isThere(i) || !Aircraft.isSpeed(vx, vy, vz)) {
            throw new IllegalArgumentException("not there, or a speed out of its range");
        }
        Aircraft aircraft = fleet[i];
        aircraft.flyWith(vx, vy, vz);
        dropAdviceOf(aircraft);
    }

    public void follow(int i, boolean follows) throws IllegalArgumentException {
        if (!isThere(i)) {
            throw new IllegalArgumentException("not there");
        }
        fleet[i].follows = follows;
    }

    public void leave(int i) throws IllegalArgumentException {
        if (!isThere(i)) {
            throw new IllegalArgumentException("not there");
        }
        Aircraft aircraft = fleet[i];
        aircraft.there = false;
        dropAdviceOf(aircraft);
    }

    public int step(int n) throws IllegalArgumentException {
        if (n < 0 || n > MOST_SECONDS_A_STEP) {
            throw new IllegalArgumentException("not 0 to 300 seconds");
        }
        for (int second = 0; second < n; second++) {
            passSecond();
        }
        return countAdvised();
    }

    public int told(int i, int what) throws IllegalArgumentException {
        if (!isThere(i) || what < 0 || what > LAST_TOLD) {
            throw new IllegalArgumentException("not there, or no such question");
        }
        return fleet[i].answer(what);
    }

    public int pair(int i, int j, int what) throws IllegalArgumentException {
        if (i == j || !isThere(i) || !isThere(j) || what < 0 || what > LAST_OF_PAIR) {
            throw new IllegalArgumentException("not two that are there, or no such question");
        }
        return pairs[pairNumber(Math.min(i, j), Math.max(i, j))].answer(what, i < j);
    }

    public int all(int what) throws IllegalArgumentException {
        if (what < 0 || what > LAST_OF_ALL) {
            throw new IllegalArgumentException("no such question");
        }
        return tally.answer(what);
    }

    private static boolean isNumber(int i) {
        return i >= 0 && i < AIRCRAFT_COUNT;
    }

    private boolean isThere(int i) {
        return isNumber(i) && fleet[i].there;
    }

    /** Rows of 5, 4, 3, 2 and 1 pairs lie behind one another, as the constructor made them. */
    private static int pairNumber(int low, int high) {
        return low * (2 * AIRCRAFT_COUNT - 1 - low) / 2 + high - low - 1;
    }

    private void dropAdviceOf(Aircraft aircraft) {
        for (Pair pair : pairs) {
            if (pair.has(aircraft)) {
                pair.dropAdvice();
            }
        }
    }

    private void restartLeastOf(Aircraft aircraft) {
        for (Pair pair : pairs) {
            if (pair.has(aircraft)) {
                pair.restartLeast();
            }
        }
    }

    private void passSecond() {
        for (Aircraft aircraft : fleet) {
            if (aircraft.there) {
                aircraft.move();
            }
        }
        for (Aircraft aircraft : fleet) {
            if (aircraft.there && aircraft.follows) {
                heedAdvice(aircraft);
            }
        }
        // Heeding advice changes no place, so that the least are the same here as behind the move.
        for (Pair pair : pairs) {
            if (pair.isThere()) {
                pair.lookAtLeast();
                pair.review();
            }
        }
        tally.seconds++;
    }

    private void heedAdvice(Aircraft aircraft) {
        int up = 0;
        int down = 0;
        for (Pair pair : pairs) {
            if (pair.has(aircraft) && pair.isHeeded()) {
                if (pair.sendsUp(aircraft)) {
                    up = Math.max(up, pair.strength);
                } else {
                    down = Math.max(down, pair.strength);
                }
            }
        }
        aircraft.pull(up, down, settings.pull());
    }

    private int countAdvised() {
        int advised = 0;
        for (Pair pair : pairs) {
            if (pair.advised) {
                advised++;
            }
        }
        return advised;
    }

    private static final class Settings {
        private static final int[] LEAST = {1, 0, 0, 0, 0, 0, 1};
        private static final int[] MOST = {100, 5000, 5000, 2000, 2000, 20, 60};
        private static final int[] AT_FIRST = {30, 1000, 2000, 250, 200, 5, 8};

        private final int[] values;

        Settings() {
            values = AT_FIRST.clone();
        }

        static boolean allows(int which, int v) {
            return which >= 0 && which < LEAST.length && v >= LEAST[which] && v <= MOST[which];
        }

        int exchange(int which, int v) {
            int before = values[which];
            values[which] = v;
            return before;
        }

        int time() {
            return values[0];
        }

        int near() {
            return values[1];
        }

        int miss() {
            return values[2];
        }

        int high() {
            return values[3];
        }

        int wanted() {
            return values[4];
        }

        int delay() {
            return values[5];
        }

        int pull() {
            return values[6];
        }
    }

    private static final class Tally {
        int begun;
        int turned;
        int strengthened;
        int ended;
        int seconds;

        int answer(int what) {
            switch (what) {
                case 0:
                    return begun;
                case 1:
                    return turned;
                case 2:
                    return strengthened;
                case 3:
                    return ended;
                default:
                    return seconds;
            }
        }
    }

    private static final class Aircraft {
        private static final int FARTHEST = 200000;
        private static final int HIGHEST = 20000;
        private static final int FASTEST = 500;
        private static final int STEEPEST = 60;
        private static final int CLIMB_A_STRENGTH = 12;

        boolean there;
        boolean follows;
        int x;
        int y;
        int z;
        int vx;
        int vy;
        int vz;

        static boolean isPlace(int x, int y, int z) {
            return isWithin(x, FARTHEST) && isWithin(y, FARTHEST) && isWithin(z, HIGHEST);
        }

        static boolean isSpeed(int vx, int vy, int vz) {
            return isWithin(vx, FASTEST) && isWithin(vy, FASTEST) && isWithin(vz, STEEPEST);
        }

        /** Compared on both sides, since the least int has no absolute value. */
        private static boolean isWithin(int value, int bound) {
            return value >= -bound && value <= bound;
        }

        private static int stopAt(int value, int bound) {
            return Math.max(-bound, Math.min(bound, value));
        }

        void putAt(int newX, int newY, int newZ) {
            if (!there) {
                there = true;
                follows = true;
                flyWith(0, 0, 0);
            }
            x = newX;
            y = newY;
            z = newZ;
        }

        void flyWith(int newVx, int newVy, int newVz) {
            vx = newVx;
            vy = newVy;
            vz = newVz;
        }

        void move() {
            x = stopAt(x + vx, FARTHEST);
            y = stopAt(y + vy, FARTHEST);
            z = stopAt(z + vz, HIGHEST);
        }

        /** Strength 0 stands for no advice of that kind. */
        void pull(int up, int down, int force) {
            if (up > 0 && down > 0) {
                levelOff(force);
            } else if (up > 0) {
                vz = Math.max(vz, Math.min(vz + force, CLIMB_A_STRENGTH * up));
            } else if (down > 0) {
                vz = Math.min(vz, Math.max(vz - force, -CLIMB_A_STRENGTH * down));
            }
        }

        private void levelOff(int force) {
            if (vz > 0) {
                vz = Math.max(0, vz - force);
            } else {
                vz = Math.min(0, vz + force);
            }
        }

        int heightGoingUp(int strength, int before, int heeding) {
            int climb = CLIMB_A_STRENGTH * strength;
            return z + vz * before + (vz > climb ? vz : climb) * heeding;
        }

        int heightGoingDown(int strength, int before, int heeding) {
            int climb = -CLIMB_A_STRENGTH * strength;
            return z + vz * before + (vz < climb ? vz : climb) * heeding;
        }

        int answer(int what) {
            switch (what) {
                case 0:
                    return x;
                case 1:
                    return y;
                case 2:
                    return z;
                case 3:
                    return vx;
                case 4:
                    return vy;
                case 5:
                    return vz;
                default:
                    return follows ? 1 : 0;
            }
        }
    }

    /**
     * Two aircraft, the one with the lower number first, and their advice.
     * A sense is true for UP: the first one goes up, the second one down.
     */
    private static final class Pair {
        private static final int STRONGEST = 4;
        private static final int MOST_DISTANCE_TOLD = 2147483647;

        private final Aircraft first;
        private final Aircraft second;
        private final Settings settings;
        private final Tally tally;
        private long leastDistance;
        private int leastHeight;
        private boolean sense;
        private int stood;
        private boolean turned;
        boolean advised;
        int strength;

        Pair(Aircraft first, Aircraft second, Settings settings, Tally tally) {
            this.first = first;
            this.second = second;
            this.settings = settings;
            this.tally = tally;
        }

        boolean isThere() {
            return first.there && second.there;
        }

        boolean has(Aircraft aircraft) {
            return first == aircraft || second == aircraft;
        }

        boolean isHeeded() {
            return advised && stood >= settings.delay();
        }

        boolean sendsUp(Aircraft aircraft) {
            return sense == (first == aircraft);
        }

        /** Without advice its other fields are 0, as the answers about it are. */
        void dropAdvice() {
            advised = false;
            sense = false;
            strength = 0;
            stood = 0;
            turned = false;
        }

        void restartLeast() {
            leastDistance = distanceSquared();
            leastHeight = heightBetween();
        }

        void lookAtLeast() {
            leastDistance = Math.min(leastDistance, distanceSquared());
            leastHeight = Math.min(leastHeight, heightBetween());
        }

        void review() {
            boolean alert = alerts();
            int left = timeLeft();
            if (!advised) {
                if (alert) {
                    advised = true;
                    takeSense(chosenSense(left), left);
                    tally.begun++;
                }
            } else if (!alert && closing() >= 0) {
                dropAdvice();
                tally.ended++;
            } else {
                stood++;
                if (mustTurn(left)) {
                    takeSense(!sense, left);
                    turned = true;
                    tally.turned++;
                } else {
                    strengthen(left);
                }
            }
        }

        private void takeSense(boolean taken, int left) {
            sense = taken;
            stood = 0;
            strength = enough(taken, 1, 0, left);
        }

        private void strengthen(int left) {
            int needed = enough(sense, strength, stood, left);
            if (needed > strength) {
                strength = needed;
                tally.strengthened++;
            }
        }

        private boolean mustTurn(int left) {
            return !turned
                && left > settings.delay()
                && parting(sense, STRONGEST, stood, left) < 0
                && parting(!sense, STRONGEST, 0, left) >= settings.wanted();
        }

        int answer(int what, boolean firstTold) {
            switch (what) {
                case 0:
                    return alerts() ? 1 : 0;
                case 1:
                    return timeLeft();
                case 2:
                    return advised ? senseFor(sense, firstTold) : 0;
                case 3:
                    return strength;
                case 4:
                    return stood;
                case 5:
                    return turned ? 1 : 0;
                case 6:
                    return advised ? parting(sense, strength, stood, timeLeft()) : 0;
                case 7:
                    return chosenParting(timeLeft());
                case 8:
                    return senseFor(chosenSense(timeLeft()), firstTold);
                case 9:
                    return (int) Math.min(leastDistance, MOST_DISTANCE_TOLD);
                default:
                    return leastHeight;
            }
        }

        private static int senseFor(boolean sense, boolean firstTold) {
            return sense == firstTold ? 1 : 2;
        }

        private boolean alerts() {
            return (isNear() || (comesNearInTime() && passesNear())) && meetsInHeight();
        }

        private boolean isNear() {
            return distanceSquared() <= nearSquared();
        }

        private boolean comesNearInTime() {
            long closing = closing();
            return closing < 0 && distanceSquared() - nearSquared() <= settings.time() * -closing;
        }

        private boolean passesNear() {
            long x = second.x - first.x;
            long y = second.y - first.y;
            long u = second.vx - first.vx;
            long v = second.vy - first.vy;
            long across = x * v - y * u;
            long miss = settings.miss();
            return across * across <= miss * miss * (u * u + v * v);
        }

        private boolean meetsInHeight() {
            int z = second.z - first.z;
            int w = second.vz - first.vz;
            return Math.abs(z) <= settings.high()
                || (z * w < 0 && Math.abs(z) <= settings.time() * Math.abs(w));
        }

        private long nearSquared() {
            long near = settings.near();
            return near * near;
        }

        private long distanceSquared() {
            long x = second.x - first.x;
            long y = second.y - first.y;
            return x * x + y * y;
        }

        private int heightBetween() {
            return Math.abs(second.z - first.z);
        }

        private long closing() {
            long x = second.x - first.x;
            long y = second.y - first.y;
            long u = second.vx - first.vx;
            long v = second.vy - first.vy;
            return x * u + y * v;
        }

        /** Closing below 0 needs a speed; that it is not 0 is looked at all the same, as a divisor. */
        private int timeLeft() {
            long u = second.vx - first.vx;
            long v = second.vy - first.vy;
            long speedSquared = u * u + v * v;
            long closing = closing();
            if (closing >= 0 || speedSquared == 0) {
                return 0;
            }
            return (int) Math.min(-closing / speedSquared, settings.time());
        }

        private int parting(boolean up, int force, int stoodFor, int left) {
            int before = Math.max(0, Math.min(left, settings.delay()) - stoodFor);
            int heeding = left - before;
            Aircraft riser = up ? first : second;
            Aircraft sinker = up ? second : first;
            return riser.heightGoingUp(force, before, heeding)
                - sinker.heightGoingDown(force, before, heeding);
        }

        private int enough(boolean up, int from, int stoodFor, int left) {
            for (int force = from; force < STRONGEST; force++) {
                if (parting(up, force, stoodFor, left) >= settings.wanted()) {
                    return force;
                }
            }
            return STRONGEST;
        }

        private boolean chosenSense(int left) {
            int enoughUp = enough(true, 1, 0, left);
            int enoughDown = enough(false, 1, 0, left);
            if (enoughUp != enoughDown) {
                return enoughUp < enoughDown;
            }
            int partUp = parting(true, enoughUp, 0, left);
            int partDown = parting(false, enoughDown, 0, left);
            if (partUp != partDown) {
                return partUp > partDown;
            }
            return first.z >= second.z;
        }

        private int chosenParting(int left) {
            boolean chosen = chosenSense(left);
            return parting(chosen, enough(chosen, 1, 0, left), 0, left);
        }
    }
}
