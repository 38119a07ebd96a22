/** Promise 5: follow. */
public final class FollowTest {
    public static void main(String[] args) {
        isHeededFromTheNextSecondOn();
        mayBeSaidTwice();
        refusesThoseNotThere();
        Due.end();
    }

    private static void isHeededFromTheNextSecondOn() {
        SkyAdvisor sky = Scenes.addNear(Scenes.withSettings(30, 1000, 2000, 250, 200, 0, 8), 0, 0);
        sky.follow(1, false);
        Due.same("told of 0", sky.told(0, 6), 1);
        Due.same("told of 1", sky.told(1, 6), 0);
        Due.same("step(3)", sky.step(3), 1);
        Due.same("vz of the one that follows", sky.told(0, 5), 16);
        Due.same("vz of the one that does not", sky.told(1, 5), 0);
        String before = Due.adviceOf(sky, 0, 1);
        sky.follow(0, false);
        sky.follow(1, true);
        Due.same("advice behind follow", Due.adviceOf(sky, 0, 1), before);
        Due.same("told of 0", sky.told(0, 6), 0);
        Due.same("told of 1", sky.told(1, 6), 1);
        Due.same("step(1)", sky.step(1), 1);
        Due.same("vz of the one that follows no more", sky.told(0, 5), 16);
        Due.same("vz of the one that follows now", sky.told(1, 5), -8);
        Due.same("all", Due.allOf(sky), "1 0 0 0 4");
    }

    private static void mayBeSaidTwice() {
        SkyAdvisor sky = Scenes.two(1, 2, 3, 4, 5, 6);
        sky.follow(3, false);
        Due.same("told", Due.toldOf(sky, 3), "1 2 3 4 5 6 0");
        sky.follow(3, true);
        sky.follow(3, true);
        Due.same("told", Due.toldOf(sky, 3), "1 2 3 4 5 6 1");
    }

    /** Of those not there, 4 has left and 5 never came. */
    private static void refusesThoseNotThere() {
        for (boolean follows : new boolean[] {true, false}) {
            for (int i : new int[] {-2, -1, 6, 7}) {
                Due.refusedEverywhere("follow(" + i + ", " + follows + ")", sky -> sky.follow(i, follows));
            }
            for (int i : Due.FAR_OFF) {
                Due.refused("follow(" + i + ", " + follows + ")", Scenes::busy, sky -> sky.follow(i, follows));
            }
            Due.refused("follow(4, " + follows + ")", Scenes::busy, sky -> sky.follow(4, follows));
            Due.refused("follow(5, " + follows + ")", Scenes::busy, sky -> sky.follow(5, follows));
        }
    }
}
