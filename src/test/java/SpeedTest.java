/** Promise 4: speed. */
public final class SpeedTest {
    public static void main(String[] args) {
        SkyAdvisor sky = new SkyAdvisor();
        sky.place(1, 10, 20, 30);
        sky.follow(1, false);
        sky.speed(1, 500, -500, 60);
        Due.same("told", Due.toldOf(sky, 1), "10 20 30 500 -500 60 0");
        sky.speed(1, -500, 500, -60);
        Due.same("told", Due.toldOf(sky, 1), "10 20 30 -500 500 -60 0");
        wrong(sky);
        endsAdvice();
        keepsLeast();
        Due.end();
    }

    private static void wrong(SkyAdvisor sky) {
        for (int i : new int[] {-1, 0, 2, 6, Integer.MIN_VALUE, Integer.MAX_VALUE}) {
            Due.refused("speed(" + i + ", 0, 0, 0)", sky, () -> sky.speed(i, 0, 0, 0));
        }
        for (int fast : new int[] {-501, 501, Integer.MIN_VALUE, Integer.MAX_VALUE}) {
            Due.refused("speed(1, " + fast + ", 0, 0)", sky, () -> sky.speed(1, fast, 0, 0));
            Due.refused("speed(1, 0, " + fast + ", 0)", sky, () -> sky.speed(1, 0, fast, 0));
        }
        for (int steep : new int[] {-61, 61, Integer.MIN_VALUE, Integer.MAX_VALUE}) {
            Due.refused("speed(1, 0, 0, " + steep + ")", sky, () -> sky.speed(1, 0, 0, steep));
        }
        sky.leave(1);
        Due.refused("speed of one that is gone", sky, () -> sky.speed(1, 0, 0, 0));
    }

    private static void endsAdvice() {
        SkyAdvisor sky = new SkyAdvisor();
        sky.place(0, 0, 0, 0);
        sky.place(1, 100, 0, 0);
        sky.place(2, 200, 0, 0);
        Due.same("step(1)", sky.step(1), 3);
        Due.refused("speed(2, 0, 0, 61)", sky, () -> sky.speed(2, 0, 0, 61));
        sky.speed(2, 0, 0, 0);
        Due.same("step(0)", sky.step(0), 1);
        Due.same("advice of 0 1", Due.adviceOf(sky, 0, 1), "1 4 0 0 0");
        Due.same("advice of 0 2", Due.adviceOf(sky, 0, 2), "0 0 0 0 0");
        Due.same("advice of 1 2", Due.adviceOf(sky, 1, 2), "0 0 0 0 0");
        Due.same("all", Due.allOf(sky), "3 0 0 0 1");
    }

    private static void keepsLeast() {
        SkyAdvisor sky = new SkyAdvisor();
        sky.place(0, 0, 0, 0);
        sky.place(1, 30, 40, 7);
        sky.speed(1, 10, 0, 1);
        sky.step(1);
        sky.speed(1, 500, 0, 5);
        sky.step(1);
        Due.same("least distance", sky.pair(0, 1, 9), 2500);
        Due.same("least height", sky.pair(0, 1, 10), 7);
    }
}
