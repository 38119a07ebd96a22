/** Promises 2 to 10 together: long runs of mixed calls, against a second reading of the document. */
public final class LongRunsTest {
    private static final int RUNS = 4000;
    private static final int MOST_CALLS = 512;
    /** The calls by which all that can be asked is asked, and those that one change may take. */
    private static final int CALLS_TO_COMPARE = 383;
    private static final int CALLS_OF_A_CHANGE = 3;
    private static final int[] LEAST = {1, 0, 0, 0, 0, 0, 1};
    private static final int[] MOST = {100, 5000, 5000, 2000, 2000, 20, 60};

    private long seed;
    private int calls = 0;
    private boolean onlyTimeIsSet = false;
    private boolean isWide = false;
    private final String name;
    private final SkyAdvisor sky = new SkyAdvisor();
    private final PlainReading reading = new PlainReading();

    private LongRunsTest(int run) {
        name = "run " + run + ": ";
        seed = run * 7919L + 1;
    }

    public static void main(String[] args) {
        int[] seen = new int[5];
        for (int run = 0; run < RUNS; run++) {
            LongRunsTest test = new LongRunsTest(run);
            test.go(run % 3);
            for (int what = 0; what < 5; what++) {
                seen[what] += test.reading.all[what];
            }
        }
        for (int what = 0; what < 5; what++) {
            Due.same("all(" + what + ") counts often enough to test it", seen[what] >= 100 ? 1 : 0, 1);
        }
        Due.end();
    }

    private void go(int kind) {
        if (kind == 1) {
            makeTurnsLikely();
        }
        isWide = kind == 2;
        int enough = number(1, MOST_CALLS - CALLS_TO_COMPARE - CALLS_OF_A_CHANGE);
        while (calls < enough) {
            change();
        }
        compare();
        Due.same(name + "calls within the limit", calls <= MOST_CALLS ? 1 : 0, 1);
    }

    /** A fixed row of numbers that looks mixed: the same in every run of the test. */
    private int number(int least, int most) {
        seed = seed * 6364136223846793005L + 1442695040888963407L;
        return least + (int) Math.floorMod(seed >>> 33, most - least + 1L);
    }

    private void change() {
        int i = number(0, 5);
        int kind = number(0, 19);
        if (!reading.there[i] || kind == 0) {
            placeOne(i);
            sendOne(i);
            if (number(0, 3) == 0) {
                followOne(i, false);
            }
        } else if (kind >= 16) {
            changeOneAlone(i, kind);
        } else if (kind <= 2) {
            int which = onlyTimeIsSet ? 0 : number(0, 6);
            setOne(which, number(LEAST[which], number(LEAST[which], MOST[which])));
        } else if (kind == 3) {
            followOne(i, number(0, 1) == 1);
        } else if (kind == 4 && number(0, 2) == 0) {
            calls++;
            sky.leave(i);
            reading.leave(i);
        } else {
            calls++;
            int n = number(0, 9) == 0 ? number(0, 60) : number(0, 3);
            Due.same(name + "step(" + n + ")", sky.step(n), reading.step(n));
        }
    }

    /** Those that cross in height while little is WANTED turn when TIME is cut. */
    private void makeTurnsLikely() {
        setOne(0, 100);
        setOne(3, 2000);
        setOne(4, number(0, 300));
        setOne(5, number(0, 2));
        onlyTimeIsSet = true;
    }

    private void setOne(int which, int value) {
        calls++;
        Due.same(name + "set(" + which + ", .)", sky.set(which, value), reading.setting[which]);
        reading.setting[which] = value;
    }

    private void followOne(int i, boolean follows) {
        calls++;
        sky.follow(i, follows);
        reading.follows[i] = follows;
    }

    /** A new place keeps the speed, a new speed the place; a refused call keeps all. */
    private void changeOneAlone(int i, int kind) {
        if (kind == 16 && number(0, 1) == 0) {
            placeOne(i);
        } else if (kind == 17 && number(0, 1) == 0) {
            sendOne(i);
        } else {
            refuseOne(i);
        }
    }

    private void refuseOne(int i) {
        calls++;
        boolean refused = false;
        try {
            callWrongly(i, number(0, 8));
        } catch (IllegalArgumentException e) {
            refused = true;
        }
        Due.same(name + "a wrong call is refused", refused ? 1 : 0, 1);
    }

    private void callWrongly(int i, int kind) {
        int which = number(0, 6);
        switch (kind) {
            case 0 -> sky.set(which, MOST[which] + 1);
            case 1 -> sky.set(which, LEAST[which] - 1);
            case 2 -> sky.place(i, 0, 0, 20001);
            case 3 -> sky.speed(i, 0, 0, -61);
            case 4 -> sky.leave(6);
            case 5 -> sky.follow(SkyAdvisor.NONE, false);
            case 6 -> sky.step(301);
            case 7 -> sky.pair(i, i, 2);
            default -> sky.told(i, 7);
        }
    }

    private void placeOne(int i) {
        calls++;
        int x = isWide ? wide(200000) : number(-6000, 6000);
        int y = isWide ? wide(200000) : number(-6000, 6000);
        int z = number(0, 9) == 0 ? number(19500, 20000) : number(-600, 600);
        sky.place(i, x, y, z);
        reading.place(i, x, y, z);
    }

    /** Most are sent roughly towards the middle, so that they meet. */
    private void sendOne(int i) {
        calls++;
        int vx = isWide ? wide(500) : towardsMiddle(reading.place[i][0]);
        int vy = isWide ? wide(500) : towardsMiddle(reading.place[i][1]);
        int vz = number(-60, 60);
        sky.speed(i, vx, vy, vz);
        reading.speed(i, vx, vy, vz);
    }

    private int towardsMiddle(long at) {
        return (int) Math.max(-500, Math.min(500, -at / 20 + number(-60, 60)));
    }

    /** Mostly close to one of the bounds, so that sums and squares are as great as they get. */
    private int wide(int bound) {
        int kind = number(0, 4);
        if (kind == 0) {
            return number(-bound, bound);
        }
        int off = number(0, bound / 50);
        return kind == 1 ? -bound + off : bound - off;
    }

    private void compare() {
        for (int i = 0; i < 6; i++) {
            for (int what = 0; reading.there[i] && what <= 6; what++) {
                calls++;
                Due.same(name + "told(" + i + ", " + what + ")", sky.told(i, what), reading.told(i, what));
            }
            for (int j = 0; j < 6; j++) {
                comparePair(i, j);
            }
        }
        for (int what = 0; what <= 4; what++) {
            calls++;
            Due.same(name + "all(" + what + ")", sky.all(what), reading.all[what]);
        }
    }

    private void comparePair(int i, int j) {
        if (i == j || !reading.there[i] || !reading.there[j]) {
            calls++;
            Due.same(name + "pair(" + i + ", " + j + ", .)", Due.pairOf(sky, i, j), "none");
            return;
        }
        for (int what = 0; what <= 10; what++) {
            calls++;
            String call = name + "pair(" + i + ", " + j + ", " + what + ")";
            Due.same(call, sky.pair(i, j, what), reading.pair(i, j, what));
        }
    }
}
