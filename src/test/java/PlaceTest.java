/** Promise 3: place. */
public final class PlaceTest {
    public static void main(String[] args) {
        comes();
        edges();
        wrong();
        placedAnew();
        endsAdvice();
        Due.end();
    }

    private static void comes() {
        SkyAdvisor sky = new SkyAdvisor();
        for (int i = 0; i < 6; i++) {
            sky.place(i, 10 + i, -20 - i, 30 + i);
            Due.same("told", Due.toldOf(sky, i), (10 + i) + " " + (-20 - i) + " " + (30 + i) + " 0 0 0 1");
        }
        sky.speed(2, 1, 2, 3);
        sky.follow(2, false);
        sky.leave(2);
        sky.place(2, 7, 8, 9);
        Due.same("told when it comes back", Due.toldOf(sky, 2), "7 8 9 0 0 0 1");
    }

    private static void edges() {
        SkyAdvisor sky = new SkyAdvisor();
        sky.place(0, 200000, 200000, 20000);
        Due.same("told", Due.toldOf(sky, 0), "200000 200000 20000 0 0 0 1");
        sky.place(5, -200000, -200000, -20000);
        Due.same("told", Due.toldOf(sky, 5), "-200000 -200000 -20000 0 0 0 1");
    }

    private static void wrong() {
        SkyAdvisor sky = new SkyAdvisor();
        sky.place(0, 1, 2, 3);
        sky.speed(0, 4, 5, 6);
        for (int i : new int[] {-1, 6, Integer.MIN_VALUE, Integer.MAX_VALUE}) {
            Due.refused("place(" + i + ", 0, 0, 0)", sky, () -> sky.place(i, 0, 0, 0));
        }
        for (int far : new int[] {-200001, 200001, Integer.MIN_VALUE, Integer.MAX_VALUE}) {
            Due.refused("place(0, " + far + ", 0, 0)", sky, () -> sky.place(0, far, 0, 0));
            Due.refused("place(0, 0, " + far + ", 0)", sky, () -> sky.place(0, 0, far, 0));
            Due.refused("place(1, 0, " + far + ", 0)", sky, () -> sky.place(1, 0, far, 0));
        }
        for (int high : new int[] {-20001, 20001, Integer.MIN_VALUE, Integer.MAX_VALUE}) {
            Due.refused("place(0, 0, 0, " + high + ")", sky, () -> sky.place(0, 0, 0, high));
        }
    }

    private static void placedAnew() {
        SkyAdvisor sky = new SkyAdvisor();
        sky.place(3, 1, 2, 3);
        sky.speed(3, 4, 5, 6);
        sky.follow(3, false);
        sky.place(3, 7, 8, 9);
        Due.same("told when placed anew", Due.toldOf(sky, 3), "7 8 9 4 5 6 0");
    }

    private static void endsAdvice() {
        SkyAdvisor sky = new SkyAdvisor();
        sky.place(0, 0, 0, 0);
        sky.place(1, 100, 0, 0);
        sky.place(2, 200, 0, 0);
        Due.same("step(1)", sky.step(1), 3);
        sky.place(4, 0, 0, 9000);
        Due.same("step(0) when one far off comes", sky.step(0), 3);
        Due.refused("place(1, 0, 0, 20001)", sky, () -> sky.place(1, 0, 0, 20001));
        sky.place(1, 100, 0, 0);
        Due.same("step(0) when one is placed anew", sky.step(0), 1);
        Due.same("advice of 0 1", Due.adviceOf(sky, 0, 1), "0 0 0 0 0");
        Due.same("advice of 0 2", Due.adviceOf(sky, 0, 2), "1 4 0 0 0");
        Due.same("advice of 1 2", Due.adviceOf(sky, 1, 2), "0 0 0 0 0");
        Due.same("all", Due.allOf(sky), "3 0 0 0 1");
        Due.same("step(1) begins it anew", sky.step(1), 3);
        Due.same("all", Due.allOf(sky), "5 0 0 0 2");
    }
}
