/** Terms, "a second", 2.: those that follow heed the advice that has stood DELAY seconds. */
public final class HeedTest {
    public static void main(String[] args) {
        waitsForDelay(0);
        waitsForDelay(1);
        waitsForDelay(5);
        waitsForDelay(20);
        growsButNotBeyondTheStrength();
        growsToTheGreatestStrength();
        pullAtItsLeastAndMost();
        heedsTheStrengthOfBefore();
        newerAdviceIsNotHeededYet();
        newerStrengthIsNotHeededYet();
        goesTowardsLevelWithBoth();
        heedsNothingWithoutFollowing();
        heedsNothingWithoutAdvice();
        heedsLessDelayAtOnce();
        Due.end();
    }

    private static void waitsForDelay(int delay) {
        SkyAdvisor sky = Scenes.addNear(Scenes.withSettings(30, 1000, 2000, 250, 200, delay, 8), 0, 0);
        for (int stood = 0; stood <= delay; stood++) {
            Due.same("step(1)", sky.step(1), 1);
            Due.same("stood", sky.pair(0, 1, 4), stood);
            Due.same("vz with DELAY " + delay + " that has stood " + stood, sky.told(0, 5), 0);
        }
        sky.step(1);
        Due.same("vz of 0 behind DELAY " + delay, sky.told(0, 5), 8);
        Due.same("vz of 1 behind DELAY " + delay, sky.told(1, 5), -8);
    }

    /** Advice of strength 1, heeded once: the one that is above goes up, and may have a speed. */
    private static int heededOnce(int i, int vz, int pull) {
        SkyAdvisor sky = Scenes.withSettings(30, 1000, 2000, 2000, 200, 0, pull);
        Scenes.addNear(sky, 400, 0);
        sky.speed(i, 0, 0, vz);
        sky.step(2);
        Due.same("advice", sky.pair(0, 1, 2) + " " + sky.pair(0, 1, 3), "1 1");
        return sky.told(i, 5);
    }

    private static void growsButNotBeyondTheStrength() {
        int[][] rows = {
            {13, 13}, {12, 12}, {11, 12}, {5, 12}, {4, 12}, {3, 11}, {0, 8}, {-1, 7}, {-60, -52}, {60, 60},
        };
        for (int[] row : rows) {
            Due.same("vz up from " + row[0], heededOnce(0, row[0], 8), row[1]);
            Due.same("vz down from " + -row[0], heededOnce(1, -row[0], 8), -row[1]);
        }
    }

    /** 0 is told up by strength 4 and by strength 1; the lowest one is told down by 1 and 1. */
    private static void growsToTheGreatestStrength() {
        SkyAdvisor sky = Scenes.withSettings(30, 1000, 2000, 2000, 200, 0, 60);
        sky.place(0, 0, 0, 1000);
        sky.place(1, 100, 0, 900);
        sky.place(2, 0, 100, 700);
        sky.step(1);
        Due.same("strength of 0 1", sky.pair(0, 1, 3), 4);
        Due.same("strength of 0 2", sky.pair(0, 2, 3), 1);
        Due.same("strength of 1 2", sky.pair(1, 2, 3), 1);
        sky.step(1);
        Due.same("vz of 0, the stronger first", sky.told(0, 5), 48);
        Due.same("vz of 2, 1 and 1 down", sky.told(2, 5), -12);
        SkyAdvisor other = Scenes.withSettings(30, 1000, 2000, 2000, 200, 0, 60);
        other.place(0, 0, 0, 1000);
        other.place(1, 100, 0, 700);
        other.place(2, 0, 100, 900);
        other.step(2);
        Due.same("vz of 0, the stronger last", other.told(0, 5), 48);
        Due.same("vz of 1, 1 and 1 down", other.told(1, 5), -12);
    }

    private static void pullAtItsLeastAndMost() {
        Due.same("vz by PULL 1", heededOnce(0, 0, 1), 1);
        Due.same("vz by PULL 1 to the strength", heededOnce(0, 11, 1), 12);
        Due.same("vz by PULL 1 at the strength", heededOnce(0, 12, 1), 12);
        Due.same("vz by PULL 60", heededOnce(0, -60, 60), 0);
        Due.same("vz by PULL 60", heededOnce(0, -49, 60), 11);
        Due.same("vz by PULL 60 to the strength", heededOnce(0, -48, 60), 12);
        Due.same("vz by PULL 60 beyond the strength", heededOnce(0, -47, 60), 12);
        Due.same("vz down by PULL 60", heededOnce(1, 60, 60), 0);
        Due.same("vz down by PULL 60 beyond the strength", heededOnce(1, 47, 60), -12);
    }

    /** Strength 4 comes in the second in which 1 is still heeded. */
    private static void heedsTheStrengthOfBefore() {
        SkyAdvisor sky = Scenes.withSettings(30, 1000, 2000, 2000, 200, 0, 60);
        Scenes.addNear(sky, 400, 0);
        sky.step(1);
        sky.set(4, 2000);
        sky.step(1);
        Due.same("strength", sky.pair(0, 1, 3), 4);
        Due.same("vz", sky.told(0, 5), 12);
        sky.step(1);
        Due.same("vz a second later", sky.told(0, 5), 48);
    }

    /** 2 comes above 0, which climbs away from 1: until that has stood DELAY, up is all there is. */
    private static void newerAdviceIsNotHeededYet() {
        SkyAdvisor sky = Scenes.addNear(Scenes.withSettings(30, 1000, 2000, 250, 200, 2, 8), 0, -100);
        sky.step(3);
        sky.place(2, 0, 100, 100);
        int[] climbs = {8, 16, 24, 16};
        for (int vz : climbs) {
            sky.step(1);
            Due.same("vz of 0", sky.told(0, 5), vz);
        }
    }

    /** 2 comes just below 0, which climbs by strength 1: 4 counts when it has stood DELAY. */
    private static void newerStrengthIsNotHeededYet() {
        SkyAdvisor sky = Scenes.addNear(Scenes.withSettings(30, 1000, 2000, 250, 200, 3, 60), 0, -200);
        sky.step(3);
        sky.place(2, 0, 100, -100);
        sky.step(1);
        int[] climbs = {12, 12, 12, 48};
        for (int vz : climbs) {
            sky.step(1);
            Due.same("vz of 0", sky.told(0, 5), vz);
            Due.same("vz of 1", sky.told(1, 5), -vz);
        }
    }

    /** 0 flies between 1 below and 2 above, and is told both. */
    private static SkyAdvisor between(int vz, int pull) {
        SkyAdvisor sky = Scenes.withSettings(30, 1000, 2000, 250, 200, 0, pull);
        sky.place(0, 0, 0, 1000);
        sky.place(1, 500, 0, 900);
        sky.place(2, 0, 500, 1100);
        sky.speed(0, 0, 0, vz);
        sky.step(1);
        Due.same("senses", sky.pair(0, 1, 2) + " " + sky.pair(0, 2, 2), "1 2");
        return sky;
    }

    private static void goesTowardsLevelWithBoth() {
        int[][] rows = {
            {20, 12, 4, 0, 0}, {-20, -12, -4, 0, 0}, {9, 1, 0, 0, 0}, {8, 0, 0, 0, 0}, {7, 0, 0, 0, 0},
            {-9, -1, 0, 0, 0}, {-8, 0, 0, 0, 0}, {-7, 0, 0, 0, 0}, {0, 0, 0, 0, 0}, {1, 0, 0, 0, 0},
        };
        for (int[] row : rows) {
            SkyAdvisor sky = between(row[0], 8);
            for (int second = 1; second < row.length; second++) {
                sky.step(1);
                Due.same("vz from " + row[0], sky.told(0, 5), row[second]);
            }
        }
        for (int vz : new int[] {60, -60, 59, -59}) {
            SkyAdvisor sky = between(vz, 60);
            sky.step(1);
            Due.same("vz from " + vz + " by PULL 60", sky.told(0, 5), 0);
        }
        for (int[] heights : new int[][] {{800, 1100}, {900, 1200}, {800, 1200}}) {
            SkyAdvisor sky = Scenes.withSettings(30, 1000, 2000, 2000, 200, 0, 8);
            sky.place(0, 0, 0, 1000);
            sky.place(1, 500, 0, heights[0]);
            sky.place(2, 0, 500, heights[1]);
            sky.step(2);
            Due.same("strength of 0 1", sky.pair(0, 1, 3), heights[0] == 800 ? 1 : 4);
            Due.same("strength of 0 2", sky.pair(0, 2, 3), heights[1] == 1200 ? 1 : 4);
            Due.same("vz between, whatever the strengths are", sky.told(0, 5), 0);
        }
        SkyAdvisor slow = between(2, 1);
        slow.step(1);
        Due.same("vz from 2 by PULL 1", slow.told(0, 5), 1);
    }

    private static void heedsNothingWithoutFollowing() {
        SkyAdvisor sky = between(20, 8);
        sky.follow(0, false);
        sky.step(3);
        Due.same("vz of one that does not follow", sky.told(0, 5), 20);
    }

    private static void heedsNothingWithoutAdvice() {
        SkyAdvisor sky = new SkyAdvisor();
        sky.set(5, 0);
        sky.place(0, 0, 0, 0);
        sky.speed(0, 0, 0, 3);
        sky.place(1, 90000, 0, 0);
        sky.speed(1, 0, 0, -3);
        sky.step(10);
        Due.same("vz of 0", sky.told(0, 5), 3);
        Due.same("vz of 1", sky.told(1, 5), -3);
    }

    private static void heedsLessDelayAtOnce() {
        SkyAdvisor sky = Scenes.addNear(Scenes.withSettings(30, 1000, 2000, 250, 200, 20, 8), 0, 0);
        sky.step(3);
        sky.set(5, 3);
        sky.step(1);
        Due.same("vz of advice that has stood 2", sky.told(0, 5), 0);
        sky.step(1);
        Due.same("vz of advice that has stood 3", sky.told(0, 5), 8);
    }
}
