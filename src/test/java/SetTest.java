/** Promise 2: set. */
public final class SetTest {
    private static final int[] LEAST = {1, 0, 0, 0, 0, 0, 1};
    private static final int[] MOST = {100, 5000, 5000, 2000, 2000, 20, 60};
    private static final int[] AT_FIRST = {30, 1000, 2000, 250, 200, 5, 8};

    public static void main(String[] args) {
        for (int which = 0; which < 7; which++) {
            takesLeastAndMost(which);
            refusesBelowLeastAndAboveMost(which);
        }
        refusesOtherSettings();
        changesOneSettingAlone();
        endsNoAdvice();
        Due.end();
    }

    private static void takesLeastAndMost(int which) {
        String name = "set(" + which + ", .)";
        SkyAdvisor sky = new SkyAdvisor();
        Due.same(name + " to the least", sky.set(which, LEAST[which]), AT_FIRST[which]);
        Due.same(name + " to the least again", sky.set(which, LEAST[which]), LEAST[which]);
        Due.same(name + " to the most", sky.set(which, MOST[which]), LEAST[which]);
        Due.same(name + " to the most again", sky.set(which, MOST[which]), MOST[which]);
        Due.same(name + " to what it was at first", sky.set(which, AT_FIRST[which]), MOST[which]);
        Due.same(name + " back", sky.set(which, AT_FIRST[which]), AT_FIRST[which]);
    }

    private static void refusesBelowLeastAndAboveMost(int which) {
        String name = "set(" + which + ", ";
        Due.refusedEverywhere(name + "below the least)", sky -> sky.set(which, LEAST[which] - 1));
        Due.refusedEverywhere(name + "above the most)", sky -> sky.set(which, MOST[which] + 1));
        Due.refused(name + "-7)", Scenes::busy, sky -> sky.set(which, -7));
        for (int v : Due.FAR_OFF) {
            Due.refused(name + v + ")", Scenes::busy, sky -> sky.set(which, v));
        }
    }

    private static void refusesOtherSettings() {
        for (int which : new int[] {-2, -1, 7, 8}) {
            Due.refusedEverywhere("set(" + which + ", 1)", sky -> sky.set(which, 1));
            Due.refused("set(" + which + ", -1)", Scenes::busy, sky -> sky.set(which, -1));
        }
        for (int which : Due.FAR_OFF) {
            Due.refused("set(" + which + ", 1)", Scenes::busy, sky -> sky.set(which, 1));
        }
    }

    private static void changesOneSettingAlone() {
        SkyAdvisor sky = new SkyAdvisor();
        int[] now = AT_FIRST.clone();
        for (int which = 0; which < 7; which++) {
            sky.set(which, 10 + which);
            now[which] = 10 + which;
            StringBuilder due = new StringBuilder();
            for (int value : now) {
                due.append(value).append(' ');
            }
            Due.same("settings", Due.settingsOf(sky), due.toString().trim());
        }
    }

    private static void endsNoAdvice() {
        SkyAdvisor sky = new SkyAdvisor();
        sky.place(0, 0, 0, 0);
        sky.place(1, 500, 0, 0);
        Due.same("step(1)", sky.step(1), 1);
        String before = Due.adviceOf(sky, 0, 1);
        sky.set(1, 0);
        Due.same("alert without NEAR", sky.pair(0, 1, 0), 0);
        Due.same("advice behind set", Due.adviceOf(sky, 0, 1), before);
        Due.same("step(0) behind set", sky.step(0), 1);
        Due.same("all behind set", Due.allOf(sky), "1 0 0 0 1");
    }
}
