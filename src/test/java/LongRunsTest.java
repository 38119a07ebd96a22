/** Promises 2 to 10 together: long runs of mixed calls, against a second reading of the document. */
public final class LongRunsTest {
    private static final int RUNS = 600;
    private static final int CALLS = 60;
    private static final int[] LEAST = {1, 0, 0, 0, 0, 0, 1};
    private static final int[] MOST = {100, 5000, 5000, 2000, 2000, 20, 60};

    private long seed;
    private boolean onlyTimeIsSet = false;
    private final SkyAdvisor sky = new SkyAdvisor();
    private final PlainReading reading = new PlainReading();

    private LongRunsTest(long seed) {
        this.seed = seed;
    }

    public static void main(String[] args) {
        int[] seen = new int[5];
        for (int run = 0; run < RUNS; run++) {
            LongRunsTest test = new LongRunsTest(run * 7919L + 1);
            if (run % 2 == 1) {
                test.makeTurnsLikely();
            }
            for (int call = 0; call < CALLS; call++) {
                test.makeCall("run " + run + " call " + call + ": ");
            }
            for (int what = 0; what < 5; what++) {
                seen[what] += test.reading.all[what];
            }
        }
        for (int what = 0; what < 5; what++) {
            Due.same("all(" + what + ") counts often enough to test it", seen[what] >= 20 ? 1 : 0, 1);
        }
        Due.end();
    }

    /** A fixed row of numbers that looks mixed: the same in every run of the test. */
    private int number(int least, int most) {
        seed = seed * 6364136223846793005L + 1442695040888963407L;
        return least + (int) Math.floorMod(seed >>> 33, most - least + 1L);
    }

    private void makeCall(String where) {
        int i = number(0, 5);
        int kind = number(0, 15);
        if (!reading.there[i]) {
            placeOne(i);
        } else if (kind == 0) {
            placeOne(i);
        } else if (kind <= 2) {
            int which = onlyTimeIsSet ? 0 : number(0, 6);
            setOne(where, which, number(LEAST[which], number(LEAST[which], MOST[which])));
        } else if (kind == 3) {
            boolean follows = number(0, 1) == 1;
            sky.follow(i, follows);
            reading.follows[i] = follows;
        } else if (kind == 4 && number(0, 2) == 0) {
            sky.leave(i);
            reading.leave(i);
        } else {
            int n = number(0, 9) == 0 ? number(0, 60) : number(0, 3);
            Due.same(where + "step(" + n + ")", sky.step(n), reading.step(n));
        }
        compare(where);
    }

    /** Those that cross in height while little is WANTED turn when TIME is cut. */
    private void makeTurnsLikely() {
        setOne("", 0, 100);
        setOne("", 3, 2000);
        setOne("", 4, number(0, 300));
        setOne("", 5, number(0, 2));
        onlyTimeIsSet = true;
    }

    private void setOne(String where, int which, int value) {
        Due.same(where + "set(" + which + ", .)", sky.set(which, value), reading.setting[which]);
        reading.setting[which] = value;
    }

    /** Most are sent roughly towards the middle, so that they meet. */
    private void placeOne(int i) {
        int x = number(-6000, 6000);
        int y = number(-6000, 6000);
        int z = number(0, 9) == 0 ? number(19500, 20000) : number(-600, 600);
        sky.place(i, x, y, z);
        reading.place(i, x, y, z);
        int vx = Math.max(-500, Math.min(500, -x / 20 + number(-60, 60)));
        int vy = Math.max(-500, Math.min(500, -y / 20 + number(-60, 60)));
        int vz = number(-60, 60);
        sky.speed(i, vx, vy, vz);
        reading.speed(i, vx, vy, vz);
        if (number(0, 3) == 0) {
            sky.follow(i, false);
            reading.follows[i] = false;
        }
    }

    private void compare(String where) {
        for (int i = 0; i < 6; i++) {
            for (int what = 0; reading.there[i] && what <= 6; what++) {
                Due.same(where + "told(" + i + ", " + what + ")", sky.told(i, what), reading.told(i, what));
            }
            for (int j = 0; j < 6; j++) {
                comparePair(where, i, j);
            }
        }
        for (int what = 0; what <= 4; what++) {
            Due.same(where + "all(" + what + ")", sky.all(what), reading.all[what]);
        }
    }

    private void comparePair(String where, int i, int j) {
        if (i == j || !reading.there[i] || !reading.there[j]) {
            Due.same(where + "pair(" + i + ", " + j + ", .)", Due.pairOf(sky, i, j), "none");
            return;
        }
        for (int what = 0; what <= 10; what++) {
            String call = where + "pair(" + i + ", " + j + ", " + what + ")";
            Due.same(call, sky.pair(i, j, what), reading.pair(i, j, what));
        }
    }
}
