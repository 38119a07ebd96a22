/** Promise 5: follow. */
public final class FollowTest {
    public static void main(String[] args) {
        SkyAdvisor sky = new SkyAdvisor();
        sky.set(5, 0);
        sky.place(0, 0, 0, 0);
        sky.place(1, 100, 0, 0);
        sky.follow(1, false);
        Due.same("told", sky.told(0, 6), 1);
        Due.same("told", sky.told(1, 6), 0);
        Due.same("step(3)", sky.step(3), 1);
        Due.same("vz of the one that follows", sky.told(0, 5), 16);
        Due.same("vz of the one that does not", sky.told(1, 5), 0);
        String before = Due.adviceOf(sky, 0, 1);
        sky.follow(0, false);
        sky.follow(1, true);
        Due.same("advice after follow", Due.adviceOf(sky, 0, 1), before);
        Due.same("told", sky.told(0, 6), 0);
        Due.same("told", sky.told(1, 6), 1);
        Due.same("step(1)", sky.step(1), 1);
        Due.same("vz of the one that follows no more", sky.told(0, 5), 16);
        Due.same("vz of the one that follows now", sky.told(1, 5), -8);
        Due.same("all", Due.allOf(sky), "1 0 0 0 4");
        wrong(sky);
        Due.end();
    }

    private static void wrong(SkyAdvisor sky) {
        for (int i : new int[] {-1, 2, 5, 6, Integer.MIN_VALUE, Integer.MAX_VALUE}) {
            Due.refused("follow(" + i + ", true)", sky, () -> sky.follow(i, true));
            Due.refused("follow(" + i + ", false)", sky, () -> sky.follow(i, false));
        }
        sky.leave(0);
        Due.refused("follow of one that is gone", sky, () -> sky.follow(0, true));
    }
}
