/** Promise 6: leave. */
public final class LeaveTest {
    public static void main(String[] args) {
        SkyAdvisor sky = new SkyAdvisor();
        sky.place(0, 0, 0, 0);
        sky.place(1, 100, 0, 0);
        sky.place(2, 200, 0, 0);
        Due.same("step(1)", sky.step(1), 3);
        sky.leave(1);
        Due.same("told of the one that is gone", Due.toldOf(sky, 1), "gone");
        Due.same("pair with the one that is gone", Due.pairOf(sky, 0, 1), "none");
        Due.same("pair with the one that is gone", Due.pairOf(sky, 1, 2), "none");
        Due.same("advice of the others", Due.adviceOf(sky, 0, 2), "1 4 0 0 0");
        Due.same("step(0)", sky.step(0), 1);
        Due.same("all", Due.allOf(sky), "3 0 0 0 1");
        for (int i : new int[] {-1, 1, 3, 6, Integer.MIN_VALUE, Integer.MAX_VALUE}) {
            Due.refused("leave(" + i + ")", sky, () -> sky.leave(i));
        }
        Due.same("step(1)", sky.step(1), 1);
        sky.place(1, 100, 0, 0);
        Due.same("advice when it comes back", Due.adviceOf(sky, 0, 1), "0 0 0 0 0");
        Due.same("step(1) when it is back", sky.step(1), 3);
        Due.same("all", Due.allOf(sky), "5 0 0 0 3");
        goneIsNotLookedAt();
        Due.end();
    }

    private static void goneIsNotLookedAt() {
        SkyAdvisor sky = new SkyAdvisor();
        sky.place(0, 0, 0, 0);
        sky.place(1, 300, 400, 60);
        sky.speed(1, -300, -400, -60);
        sky.leave(1);
        sky.step(1);
        sky.place(1, 300, 400, 60);
        Due.same("least distance since it came back", sky.pair(0, 1, 9), 250000);
        Due.same("least height since it came back", sky.pair(0, 1, 10), 60);
    }
}
