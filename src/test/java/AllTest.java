/** Promise 10: all. */
public final class AllTest {
    public static void main(String[] args) {
        countsFromNothingOn();
        countsAGrowthOfThreeOnce();
        countsATurnAsNoGrowth();
        countsEachPairOfASecond();
        countsNoEndButThatOfASecond();
        countsSecondsUpToALot();
        refusesOtherQuestions();
        Due.end();
    }

    /** Aircraft 3 comes by: advice begins, stands within NEAR, ends behind it, and begins anew. */
    private static void countsFromNothingOn() {
        SkyAdvisor sky = Scenes.two(-4000, 0, 0, 200, 0, 0);
        Due.same("all before the first second", Due.allOf(sky), "0 0 0 0 0");
        sky.step(0);
        Due.same("all behind no second", Due.allOf(sky), "0 0 0 0 0");
        sky.step(1);
        Due.same("all when advice began", Due.allOf(sky), "1 0 0 0 1");
        sky.step(18);
        Due.same("all when advice grew", Due.allOf(sky), "1 0 3 0 19");
        sky.step(6);
        Due.same("all at NEAR behind the meeting", Due.allOf(sky), "1 0 3 0 25");
        sky.step(1);
        Due.same("all when advice ended", Due.allOf(sky), "1 0 3 1 26");
        sky.step(5);
        Due.same("all while there is no advice", Due.allOf(sky), "1 0 3 1 31");
        sky.place(3, 0, 0, 0);
        sky.step(1);
        Due.same("all when advice began anew", Due.allOf(sky), "2 0 3 1 32");
    }

    /** Strength 1 becomes 4 within one second, when far more is wanted. */
    private static void countsAGrowthOfThreeOnce() {
        SkyAdvisor sky = Scenes.two(3100, 0, 100, -100, 0, 0);
        sky.step(1);
        Due.same("strength", sky.pair(1, 3, 3), 1);
        sky.set(4, 2000);
        sky.step(1);
        Due.same("strength", sky.pair(1, 3, 3), 4);
        Due.same("all", Due.allOf(sky), "1 0 1 0 2");
        sky.step(1);
        Due.same("all while it stays", Due.allOf(sky), "1 0 1 0 3");
    }

    private static void countsATurnAsNoGrowth() {
        SkyAdvisor sky = TurnTest.crossing(149, 0, 50, 301);
        Due.same("strength before", sky.pair(0, 1, 3), 1);
        sky.step(1);
        Due.same("strength behind the turn", sky.pair(0, 1, 3), 2);
        Due.same("all", Due.allOf(sky), "1 1 0 0 2");
    }

    private static void countsEachPairOfASecond() {
        Due.same("all of six", Due.allOf(Scenes.full()), "15 0 0 0 3");
        SkyAdvisor sky = Scenes.full();
        for (int i = 0; i < 6; i++) {
            sky.follow(i, false);
        }
        sky.set(1, 0);
        sky.step(1);
        Due.same("all when 15 ended at once", Due.allOf(sky), "15 0 0 15 4");
    }

    private static void countsNoEndButThatOfASecond() {
        SkyAdvisor sky = Scenes.full();
        sky.place(0, 0, 0, 0);
        sky.speed(1, 0, 0, 0);
        sky.leave(2);
        Due.same("pairs with advice", sky.step(0), 3);
        Due.same("all when place, speed and leave ended some", Due.allOf(sky), "15 0 0 0 3");
        sky.step(1);
        Due.same("all when they began anew", Due.allOf(sky), "22 0 0 0 4");
    }

    private static void countsSecondsUpToALot() {
        SkyAdvisor sky = new SkyAdvisor();
        for (int call = 0; call < 400; call++) {
            sky.step(300);
        }
        Due.same("seconds", sky.all(4), 120000);
    }

    private static void refusesOtherQuestions() {
        for (int what : new int[] {-2, -1, 5, 6}) {
            Due.refusedEverywhere("all(" + what + ")", sky -> sky.all(what));
        }
        for (int what : Due.FAR_OFF) {
            Due.refused("all(" + what + ")", Scenes::busy, sky -> sky.all(what));
        }
    }
}
