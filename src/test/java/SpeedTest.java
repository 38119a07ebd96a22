/** Promise 4: speed. */
public final class SpeedTest {
    public static void main(String[] args) {
        takesEachBound();
        refusesBeyondEachBound();
        refusesThoseNotThere();
        keepsPlaceAndFollowing();
        keepsLeast();
        Due.end();
    }

    private static void takesEachBound() {
        int[][] speeds = {
            {500, 1, 2}, {-500, 1, 2}, {1, 500, 2}, {1, -500, 2}, {1, 2, 60}, {1, 2, -60},
            {500, 500, 60}, {-500, -500, -60}, {0, 0, 0},
        };
        SkyAdvisor sky = new SkyAdvisor();
        sky.place(5, 10, 20, 30);
        for (int[] by : speeds) {
            sky.speed(5, by[0], by[1], by[2]);
            Due.same("told", Due.toldOf(sky, 5), "10 20 30 " + by[0] + " " + by[1] + " " + by[2] + " 1");
        }
    }

    private static void refusesBeyondEachBound() {
        int[][] speeds = {
            {501, 0, 0}, {-501, 0, 0}, {0, 501, 0}, {0, -501, 0}, {0, 0, 61}, {0, 0, -61},
        };
        for (int[] by : speeds) {
            String call = "speed(1, " + by[0] + ", " + by[1] + ", " + by[2] + ")";
            Due.refused(call, Scenes::busy, sky -> sky.speed(1, by[0], by[1], by[2]));
            Due.refused(call, Scenes::full, sky -> sky.speed(1, by[0], by[1], by[2]));
            Due.refused(call + " of 4", Scenes::busy, sky -> sky.speed(4, by[0], by[1], by[2]));
        }
        for (int fast : Due.FAR_OFF) {
            Due.refused("speed(1, " + fast + ", 0, 0)", Scenes::busy, sky -> sky.speed(1, fast, 0, 0));
            Due.refused("speed(1, 0, " + fast + ", 0)", Scenes::busy, sky -> sky.speed(1, 0, fast, 0));
            Due.refused("speed(1, 0, 0, " + fast + ")", Scenes::busy, sky -> sky.speed(1, 0, 0, fast));
        }
    }

    /** Of those not there, 4 has left and 5 never came. */
    private static void refusesThoseNotThere() {
        for (int i : new int[] {-2, -1, 6, 7}) {
            Due.refusedEverywhere("speed(" + i + ", 0, 0, 0)", sky -> sky.speed(i, 0, 0, 0));
        }
        for (int i : Due.FAR_OFF) {
            Due.refused("speed(" + i + ", 0, 0, 0)", Scenes::busy, sky -> sky.speed(i, 0, 0, 0));
        }
        Due.refused("speed(4, 1, 2, 3)", Scenes::busy, sky -> sky.speed(4, 1, 2, 3));
        Due.refused("speed(5, 1, 2, 3)", Scenes::busy, sky -> sky.speed(5, 1, 2, 3));
    }

    private static void keepsPlaceAndFollowing() {
        SkyAdvisor sky = new SkyAdvisor();
        sky.place(1, 10, 20, 30);
        sky.follow(1, false);
        sky.speed(1, 7, -8, 9);
        Due.same("told", Due.toldOf(sky, 1), "10 20 30 7 -8 9 0");
    }

    private static void keepsLeast() {
        SkyAdvisor sky = Scenes.two(30, 40, 7, 10, 0, 1);
        sky.step(1);
        sky.speed(3, 500, 0, 5);
        Due.same("least distance behind speed", sky.pair(1, 3, 9), 2500);
        Due.same("least height behind speed", sky.pair(1, 3, 10), 7);
        sky.step(1);
        Due.same("least distance a second later", sky.pair(1, 3, 9), 2500);
        Due.same("least height a second later", sky.pair(1, 3, 10), 7);
    }
}
