/** Promise 8: told. */
public final class ToldTest {
    public static void main(String[] args) {
        SkyAdvisor sky = new SkyAdvisor();
        sky.place(4, -11, 22, -33);
        sky.speed(4, 44, -55, 6);
        int[] due = {-11, 22, -33, 44, -55, 6, 1};
        for (int what = 0; what <= 6; what++) {
            Due.same("told(4, " + what + ")", sky.told(4, what), due[what]);
        }
        sky.follow(4, false);
        Due.same("told(4, 6)", sky.told(4, 6), 0);
        sky.step(2);
        Due.same("told after two seconds", Due.toldOf(sky, 4), "77 -88 -21 44 -55 6 0");
        for (int what : new int[] {-1, 7, Integer.MIN_VALUE, Integer.MAX_VALUE}) {
            Due.refused("told(4, " + what + ")", sky, () -> sky.told(4, what));
        }
        for (int i : new int[] {-1, 0, 3, 5, 6, Integer.MIN_VALUE, Integer.MAX_VALUE}) {
            Due.refused("told(" + i + ", 0)", sky, () -> sky.told(i, 0));
        }
        sky.leave(4);
        Due.refused("told of one that is gone", sky, () -> sky.told(4, 0));
        Due.end();
    }
}
