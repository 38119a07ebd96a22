/** Terms: when an aircraft comes, goes, or gets a place or speed, its pairs' advice ends. */
public final class DroppedTest {
    public static void main(String[] args) {
        for (int i = 0; i < 6; i++) {
            placeEndsItsPairsAlone(i);
            speedEndsItsPairsAlone(i);
            leaveEndsItsPairsAlone(i);
        }
        followEndsNone();
        comingEndsNoneOfOthers();
        isAtOnceAndBeginsWithTheNextSecond();
        Due.end();
    }

    private static void checkOthers(String what, SkyAdvisor sky, int gone) {
        SkyAdvisor twin = Scenes.full();
        int advised = 0;
        for (int i = 0; i < 6; i++) {
            for (int j = i + 1; j < 6; j++) {
                if (i != gone && j != gone) {
                    Due.same(what + ", pair " + i + " " + j, Due.pairOf(sky, i, j), Due.pairOf(twin, i, j));
                    advised += twin.pair(i, j, 2) == 0 ? 0 : 1;
                }
            }
        }
        Due.same(what + ", others with advice", advised, 10);
        Due.same(what + ", step(0)", sky.step(0), 10);
        Due.same(what + ", all", Due.allOf(sky), "15 0 0 0 3");
    }

    private static void checkDropped(String what, SkyAdvisor sky, int i) {
        for (int j = 0; j < 6; j++) {
            if (j != i) {
                Due.same(what + ", advice " + i + " " + j, Due.adviceOf(sky, i, j), "0 0 0 0 0");
            }
        }
    }

    /** Even at the place where it is. */
    private static void placeEndsItsPairsAlone(int i) {
        SkyAdvisor sky = Scenes.full();
        sky.place(i, sky.told(i, 0), sky.told(i, 1), sky.told(i, 2));
        checkDropped("place of " + i, sky, i);
        checkOthers("place of " + i, sky, i);
    }

    /** Even with the speed that it has. */
    private static void speedEndsItsPairsAlone(int i) {
        SkyAdvisor sky = Scenes.full();
        sky.speed(i, sky.told(i, 3), sky.told(i, 4), sky.told(i, 5));
        checkDropped("speed of " + i, sky, i);
        checkOthers("speed of " + i, sky, i);
    }

    private static void leaveEndsItsPairsAlone(int i) {
        SkyAdvisor sky = Scenes.full();
        sky.leave(i);
        checkOthers("leave of " + i, sky, i);
        sky.place(i, 10 * i, -10 * i, 40 * i);
        checkDropped("leave of " + i + " that came back", sky, i);
    }

    private static void followEndsNone() {
        SkyAdvisor sky = Scenes.full();
        for (int i = 0; i < 6; i++) {
            sky.follow(i, i % 2 == 0);
        }
        Due.same("step(0) behind follow", sky.step(0), 15);
    }

    private static void comingEndsNoneOfOthers() {
        SkyAdvisor sky = Scenes.full();
        sky.leave(5);
        sky.place(5, 0, 0, 0);
        checkOthers("one that comes", sky, 5);
    }

    private static void isAtOnceAndBeginsWithTheNextSecond() {
        SkyAdvisor sky = Scenes.full();
        sky.speed(2, 0, 0, 0);
        Due.same("step(0) behind speed", sky.step(0), 10);
        Due.same("step(1) behind speed", sky.step(1), 15);
        Due.same("stood, begun anew", sky.pair(2, 3, 4), 0);
        Due.same("stood, of others", sky.pair(0, 1, 4), 3);
        Due.same("all", Due.allOf(sky), "20 0 0 0 4");
    }
}
