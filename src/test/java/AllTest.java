/** Promise 10: all. */
public final class AllTest {
    public static void main(String[] args) {
        SkyAdvisor sky = new SkyAdvisor();
        sky.place(0, 0, 0, 0);
        sky.place(1, -4000, 0, 0);
        sky.speed(1, 200, 0, 0);
        sky.follow(0, false);
        sky.follow(1, false);
        sky.step(1);
        Due.same("all when advice began", Due.allOf(sky), "1 0 0 0 1");
        sky.step(18);
        Due.same("all when advice grew", Due.allOf(sky), "1 0 3 0 19");
        sky.step(6);
        Due.same("all at NEAR behind the meeting", Due.allOf(sky), "1 0 3 0 25");
        sky.step(1);
        Due.same("all when advice ended", Due.allOf(sky), "1 0 3 1 26");
        sky.place(1, 0, 0, 0);
        sky.step(1);
        Due.same("all when advice began anew", Due.allOf(sky), "2 0 3 1 27");
        sky.leave(1);
        sky.step(3);
        Due.same("all when one is gone", Due.allOf(sky), "2 0 3 1 30");
        for (int what : new int[] {-1, 5, Integer.MIN_VALUE, Integer.MAX_VALUE}) {
            Due.refused("all(" + what + ")", sky, () -> sky.all(what));
        }
        Due.end();
    }
}
