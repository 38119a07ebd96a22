/** Promise 7: step. */
public final class StepTest {
    public static void main(String[] args) {
        noSecondChangesNothing();
        oneSecond();
        mostSecondsAtOnce();
        manyAtOnceAreAsManyOneByOne();
        answersHowManyPairsHaveAdvice();
        refusesOtherNumbers();
        Due.end();
    }

    private static void noSecondChangesNothing() {
        Due.Scene[] scenes = {SkyAdvisor::new, Scenes::busy, Scenes::full};
        int[] advised = {0, 2, 15};
        for (int k = 0; k < scenes.length; k++) {
            SkyAdvisor sky = scenes[k].make();
            Due.same("step(0)", sky.step(0), advised[k]);
            Due.same("step(0) again", sky.step(0), advised[k]);
            Due.same("the state behind step(0)", Due.stateOf(sky, scenes[k]), Due.stateOf(scenes[k].make(), scenes[k]));
        }
    }

    private static void oneSecond() {
        SkyAdvisor sky = Scenes.two(5, 6, 7, 1, 2, 3);
        sky.step(1);
        Due.same("told behind a second", Due.toldOf(sky, 3), "6 8 10 1 2 3 0");
        Due.same("seconds", sky.all(4), 1);
    }

    private static void mostSecondsAtOnce() {
        SkyAdvisor sky = new SkyAdvisor();
        sky.place(0, -100, 100, -300);
        sky.speed(0, 2, -1, 1);
        Due.same("step(300)", sky.step(300), 0);
        Due.same("told behind 300 seconds", Due.toldOf(sky, 0), "500 -200 0 2 -1 1 1");
        Due.same("seconds", sky.all(4), 300);
        Due.same("step(299)", sky.step(299), 0);
        Due.same("seconds", sky.all(4), 599);
    }

    private static void manyAtOnceAreAsManyOneByOne() {
        SkyAdvisor atOnce = Scenes.full();
        SkyAdvisor oneByOne = Scenes.full();
        atOnce.step(40);
        for (int second = 0; second < 40; second++) {
            oneByOne.step(1);
            oneByOne.step(0);
        }
        Due.same("the state behind 40 seconds", Due.stateOf(oneByOne, Scenes::full), Due.stateOf(atOnce, Scenes::full));
    }

    private static void answersHowManyPairsHaveAdvice() {
        SkyAdvisor sky = new SkyAdvisor();
        int[] pairs = {0, 1, 3, 6, 10, 15};
        for (int i = 0; i < 6; i++) {
            sky.place(i, i, i, i);
            Due.same("step(1) with " + (i + 1) + " there", sky.step(1), pairs[i]);
        }
        SkyAdvisor row = new SkyAdvisor();
        row.place(0, 0, 0, 0);
        row.place(1, 1000, 0, 0);
        row.place(2, 2000, 0, 0);
        Due.same("step(1) with two pairs of three near", row.step(1), 2);
    }

    private static void refusesOtherNumbers() {
        for (int n : new int[] {-300, -2, -1, 301, 302}) {
            Due.refusedEverywhere("step(" + n + ")", sky -> sky.step(n));
        }
        for (int n : Due.FAR_OFF) {
            Due.refused("step(" + n + ")", Scenes::busy, sky -> sky.step(n));
        }
    }
}
