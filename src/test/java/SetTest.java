/** Promise 2: set. */
public final class SetTest {
    private static final int[] LEAST = {1, 0, 0, 0, 0, 0, 1};
    private static final int[] MOST = {100, 5000, 5000, 2000, 2000, 20, 60};
    private static final int[] AT_FIRST = {30, 1000, 2000, 250, 200, 5, 8};

    public static void main(String[] args) {
        SkyAdvisor sky = new SkyAdvisor();
        for (int which = 0; which < 7; which++) {
            edges(sky, which);
        }
        Due.same("settings", Due.settingsOf(sky), "100 5000 5000 2000 2000 20 60");
        for (int which : new int[] {-1, 7, 8, Integer.MIN_VALUE, Integer.MAX_VALUE}) {
            Due.refused("set(" + which + ", 1)", sky, () -> sky.set(which, 1));
        }
        settingKeepsAdvice();
        Due.end();
    }

    private static void edges(SkyAdvisor sky, int which) {
        int below = LEAST[which] - 1;
        int above = MOST[which] + 1;
        String name = "set(" + which + ", .)";
        Due.same(name, sky.set(which, LEAST[which]), AT_FIRST[which]);
        Due.refused(name + " below", sky, () -> sky.set(which, below));
        Due.refused(name + " above", sky, () -> sky.set(which, above));
        Due.refused(name + " far below", sky, () -> sky.set(which, Integer.MIN_VALUE));
        Due.refused(name + " far above", sky, () -> sky.set(which, Integer.MAX_VALUE));
        Due.same(name, sky.set(which, MOST[which]), LEAST[which]);
        Due.same(name, sky.set(which, MOST[which]), MOST[which]);
    }

    private static void settingKeepsAdvice() {
        SkyAdvisor sky = new SkyAdvisor();
        sky.place(0, 0, 0, 0);
        sky.place(1, 500, 0, 0);
        Due.same("step(1)", sky.step(1), 1);
        String before = Due.adviceOf(sky, 0, 1);
        sky.set(1, 0);
        Due.same("alert without NEAR", sky.pair(0, 1, 0), 0);
        Due.same("advice after set", Due.adviceOf(sky, 0, 1), before);
        Due.same("step(0) after set", sky.step(0), 1);
    }
}
