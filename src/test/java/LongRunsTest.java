/** Promises 2 to 10 together: long runs of mixed calls, against a second reading of the document. */
public final class LongRunsTest {
    private static final int RUNS = 4000;
    private static final int MOST_CALLS = 512;
    /** The calls by which all that can be asked is asked, and those that one change may take. */
    private static final int CALLS_TO_COMPARE = 383;
    private static final int CALLS_OF_A_CHANGE = 3;
    private static final int[] LEAST = {1, 0, 0, 0, 0, 0, 1};
    private static final int[] MOST = {100, 5000, 5000, 2000, 2000, 20, 60};

    private long seed;
    private int calls = 0;
    private boolean onlyTimeIsSet = false;
    private final String name;
    private final SkyAdvisor sky = new SkyAdvisor();
    private final PlainReading reading = new PlainReading();

    private LongRunsTest(int run) {
        name = "run " + run + ": ";
        seed = run * 7919L + 1;
    }

    public static void main(String[] args) {
        int[] seen = new int[5];
        for (int run = 0; run < RUNS; run++) {
            LongRunsTest test = new LongRunsTest(run);
            test.go(run % 2 == 1);
            for (int what = 0; what < 5; what++) {
                seen[what] += test.reading.all[what];
            }
        }
        for (int what = 0; what < 5; what++) {
            Due.same("all(" + what + ") counts often enough to test it", seen[what] >= 100 ? 1 : 0, 1);
        }
        Due.end();
    }

    private void go(boolean turnsAreLikely) {
        if (turnsAreLikely) {
            makeTurnsLikely();
        }
        int enough = number(1, MOST_CALLS - CALLS_TO_COMPARE - CALLS_OF_A_CHANGE);
        while (calls < enough) {
            change();
        }
        compare();
        Due.same(name + "calls within the limit", calls <= MOST_CALLS ? 1 : 0, 1);
    }

    /** A fixed row of numbers that looks mixed: the same in every run of the test. */
    private int number(int least, int most) {
        seed = seed * 6364136223846793005L + 1442695040888963407L;
        return least + (int) Math.floorMod(seed >>> 33, most - least + 1L);
    }

    private void change() {
        int i = number(0, 5);
        int kind = number(0, 15);
        if (!reading.there[i] || kind == 0) {
            placeOne(i);
        } else if (kind <= 2) {
            int which = onlyTimeIsSet ? 0 : number(0, 6);
            setOne(which, number(LEAST[which], number(LEAST[which], MOST[which])));
        } else if (kind == 3) {
            followOne(i, number(0, 1) == 1);
        } else if (kind == 4 && number(0, 2) == 0) {
            calls++;
            sky.leave(i);
            reading.leave(i);
        } else {
            calls++;
            int n = number(0, 9) == 0 ? number(0, 60) : number(0, 3);
            Due.same(name + "step(" + n + ")", sky.step(n), reading.step(n));
        }
    }

    /** Those that cross in height while little is WANTED turn when TIME is cut. */
    private void makeTurnsLikely() {
        setOne(0, 100);
        setOne(3, 2000);
        setOne(4, number(0, 300));
        setOne(5, number(0, 2));
        onlyTimeIsSet = true;
    }

    private void setOne(int which, int value) {
        calls++;
        Due.same(name + "set(" + which + ", .)", sky.set(which, value), reading.setting[which]);
        reading.setting[which] = value;
    }

    private void followOne(int i, boolean follows) {
        calls++;
        sky.follow(i, follows);
        reading.follows[i] = follows;
    }

    /** Most are sent roughly towards the middle, so that they meet. */
    private void placeOne(int i) {
        int x = number(-6000, 6000);
        int y = number(-6000, 6000);
        int z = number(0, 9) == 0 ? number(19500, 20000) : number(-600, 600);
        sky.place(i, x, y, z);
        reading.place(i, x, y, z);
        int vx = Math.max(-500, Math.min(500, -x / 20 + number(-60, 60)));
        int vy = Math.max(-500, Math.min(500, -y / 20 + number(-60, 60)));
        int vz = number(-60, 60);
        sky.speed(i, vx, vy, vz);
        reading.speed(i, vx, vy, vz);
        calls += 2;
        if (number(0, 3) == 0) {
            followOne(i, false);
        }
    }

    private void compare() {
        for (int i = 0; i < 6; i++) {
            for (int what = 0; reading.there[i] && what <= 6; what++) {
                calls++;
                Due.same(name + "told(" + i + ", " + what + ")", sky.told(i, what), reading.told(i, what));
            }
            for (int j = 0; j < 6; j++) {
                comparePair(i, j);
            }
        }
        for (int what = 0; what <= 4; what++) {
            calls++;
            Due.same(name + "all(" + what + ")", sky.all(what), reading.all[what]);
        }
    }

    private void comparePair(int i, int j) {
        if (i == j || !reading.there[i] || !reading.there[j]) {
            calls++;
            Due.same(name + "pair(" + i + ", " + j + ", .)", Due.pairOf(sky, i, j), "none");
            return;
        }
        for (int what = 0; what <= 10; what++) {
            calls++;
            String call = name + "pair(" + i + ", " + j + ", " + what + ")";
            Due.same(call, sky.pair(i, j, what), reading.pair(i, j, what));
        }
    }
}
