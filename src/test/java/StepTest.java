/** Promise 7: step, and what a second does. */
public final class StepTest {
    public static void main(String[] args) {
        counts();
        wrong();
        stopsAtBounds();
        waitsForDelay();
        pullsUpAndDownToStrength();
        leavesSteeperClimbAlone();
        levelsOffBetweenTwo();
        turnsOnce();
        staysWhenSenseStillParts();
        staysWhenOtherSenseIsTooWeak();
        staysWhenTimeIsNotAboveDelay();
        endsWhenParting();
        endsSideBySide();
        staysWhileClosing();
        Due.end();
    }

    private static void counts() {
        SkyAdvisor sky = new SkyAdvisor();
        sky.place(0, 0, 0, 0);
        sky.place(1, 1000, 0, 0);
        sky.place(2, 2000, 0, 0);
        String before = Due.stateOf(sky);
        Due.same("step(0)", sky.step(0), 0);
        Due.same("the state after step(0)", Due.stateOf(sky), before);
        Due.same("step(1)", sky.step(1), 2);
        Due.same("step(0)", sky.step(0), 2);
        sky.step(300);
        Due.same("seconds", sky.all(4), 301);
    }

    private static void wrong() {
        SkyAdvisor sky = new SkyAdvisor();
        sky.place(0, 0, 0, 0);
        sky.speed(0, 1, 1, 1);
        for (int n : new int[] {-1, 301, Integer.MIN_VALUE, Integer.MAX_VALUE}) {
            Due.refused("step(" + n + ")", sky, () -> sky.step(n));
        }
    }

    private static void stopsAtBounds() {
        SkyAdvisor sky = new SkyAdvisor();
        sky.place(0, 199500, 199501, 19941);
        sky.speed(0, 500, 500, 60);
        sky.place(1, -199500, -199501, -19941);
        sky.speed(1, -500, -500, -60);
        sky.step(1);
        Due.same("told at the bounds", Due.toldOf(sky, 0), "200000 200000 20000 500 500 60 1");
        Due.same("told at the bounds", Due.toldOf(sky, 1), "-200000 -200000 -20000 -500 -500 -60 1");
        sky.step(1);
        Due.same("told at the bounds", Due.toldOf(sky, 0), "200000 200000 20000 500 500 60 1");
        sky.speed(0, -1, -2, -3);
        sky.step(1);
        Due.same("told off the bounds", Due.toldOf(sky, 0), "199999 199998 19997 -1 -2 -3 1");
    }

    private static void waitsForDelay() {
        SkyAdvisor sky = new SkyAdvisor();
        sky.set(5, 2);
        sky.place(0, 0, 0, 0);
        sky.place(1, 100, 0, 0);
        int[] climbs = {0, 0, 0, 8, 16};
        for (int second = 0; second < climbs.length; second++) {
            Due.same("step(1)", sky.step(1), 1);
            Due.same("stood", sky.pair(0, 1, 4), second);
            Due.same("vz of 0", sky.told(0, 5), climbs[second]);
            Due.same("vz of 1", sky.told(1, 5), -climbs[second]);
        }
        Due.same("z of 0 moves before vz grows", sky.told(0, 2), 8);
    }

    /** They are 400 apart at strength 1; PULL does not divide 12. */
    private static void pullsUpAndDownToStrength() {
        SkyAdvisor sky = new SkyAdvisor();
        Due.settle(sky, 30, 1000, 2000, 2000, 200, 0, 5);
        sky.place(0, 0, 0, 0);
        sky.place(1, 100, 0, 400);
        int[] sinks = {0, -5, -10, -12, -12};
        for (int vz : sinks) {
            sky.step(1);
            Due.same("advice", sky.pair(0, 1, 2) + " " + sky.pair(0, 1, 3), "2 1");
            Due.same("vz of 0", sky.told(0, 5), vz);
            Due.same("vz of 1", sky.told(1, 5), -vz);
        }
    }

    private static void leavesSteeperClimbAlone() {
        SkyAdvisor sky = new SkyAdvisor();
        Due.settle(sky, 30, 1000, 2000, 2000, 200, 0, 60);
        sky.place(0, 0, 0, 400);
        sky.speed(0, 0, 0, 13);
        sky.place(1, 100, 0, 0);
        sky.speed(1, 0, 0, -13);
        sky.step(5);
        Due.same("advice", Due.adviceOf(sky, 0, 1), "1 1 4 0 530");
        Due.same("vz of 0", sky.told(0, 5), 13);
        Due.same("vz of 1", sky.told(1, 5), -13);
    }

    /** 0 flies between 1 below and 2 above; 1 sinks by the stronger of its two advices. */
    private static void levelsOffBetweenTwo() {
        SkyAdvisor sky = new SkyAdvisor();
        sky.set(5, 0);
        sky.place(0, 0, 0, 1000);
        sky.place(1, 500, 0, 900);
        sky.place(2, 0, 500, 1100);
        sky.speed(0, 0, 0, 20);
        Due.same("step(1)", sky.step(1), 3);
        Due.same("advice of 0 1", Due.adviceOf(sky, 0, 1), "1 4 0 0 120");
        Due.same("advice of 0 2", Due.adviceOf(sky, 0, 2), "2 4 0 0 80");
        Due.same("advice of 1 2", Due.adviceOf(sky, 1, 2), "2 1 0 0 200");
        int[][] climbs = {{12, -8, 8}, {4, -16, 16}, {0, -24, 24}, {0, -32, 32}};
        for (int[] due : climbs) {
            sky.step(1);
            for (int i = 0; i < 3; i++) {
                Due.same("vz of " + i, sky.told(i, 5), due[i]);
            }
        }
        sky.place(0, 0, 0, 1000);
        sky.place(1, 500, 0, 900);
        sky.place(2, 0, 500, 1100);
        sky.speed(0, 0, 0, -9);
        sky.step(2);
        Due.same("vz from below", sky.told(0, 5), -1);
        sky.step(1);
        Due.same("vz from below", sky.told(0, 5), 0);
    }

    /** Two that do not follow, crossing in height: UP is chosen, then TIME is cut to a second. */
    private static SkyAdvisor crossing(int wanted, int delay, int height) {
        SkyAdvisor sky = new SkyAdvisor();
        Due.settle(sky, 100, 1000, 2000, 2000, wanted, delay, 8);
        sky.place(0, 0, 0, 0);
        sky.place(1, 2000, 0, height);
        sky.speed(0, 100, 0, 50);
        sky.speed(1, 0, 0, -50);
        sky.follow(0, false);
        sky.follow(1, false);
        Due.same("step(1)", sky.step(1), 1);
        Due.same("advice at first", Due.adviceOf(sky, 0, 1), "1 1 0 0 " + (2000 - height));
        sky.set(0, 1);
        return sky;
    }

    private static void turnsOnce() {
        SkyAdvisor sky = crossing(197, 0, 301);
        Due.same("step(1)", sky.step(1), 1);
        Due.same("advice turned", Due.adviceOf(sky, 0, 1), "2 4 0 1 197");
        Due.same("advice turned, for the other", Due.adviceOf(sky, 1, 0), "1 4 0 1 197");
        Due.same("all", Due.allOf(sky), "1 1 0 0 2");
        sky.step(1);
        Due.same("advice a second later", Due.adviceOf(sky, 0, 1), "2 4 1 1 97");
        sky.step(1);
        Due.same("advice is not turned back", Due.adviceOf(sky, 0, 1), "2 4 2 1 -3");
        Due.same("by the other sense they would part", sky.pair(0, 1, 7), 199);
        Due.same("all", Due.allOf(sky), "1 1 0 0 4");
        SkyAdvisor weak = crossing(149, 0, 301);
        weak.step(1);
        Due.same("turned advice starts from strength 1", Due.adviceOf(weak, 0, 1), "2 2 0 1 149");
        Due.same("a turn is not counted as growth", Due.allOf(weak), "1 1 0 0 2");
        weak.speed(0, 100, 0, 50);
        weak.place(0, 1900, 0, 0);
        weak.step(1);
        Due.same("new advice is not turned", weak.pair(0, 1, 5), 0);
        Due.same("all", Due.allOf(weak), "2 1 0 0 3");
    }

    private static void staysWhenSenseStillParts() {
        SkyAdvisor sky = crossing(1, 0, 300);
        sky.step(1);
        Due.same("advice that parts by 0", Due.adviceOf(sky, 0, 1), "1 4 1 0 0");
        Due.same("all", Due.allOf(sky), "1 0 1 0 2");
    }

    private static void staysWhenOtherSenseIsTooWeak() {
        SkyAdvisor sky = crossing(198, 0, 301);
        sky.step(1);
        Due.same("advice whose other sense parts by 197", Due.adviceOf(sky, 0, 1), "1 4 1 0 -1");
        Due.same("all", Due.allOf(sky), "1 0 1 0 2");
    }

    private static void staysWhenTimeIsNotAboveDelay() {
        SkyAdvisor sky = crossing(1, 1, 301);
        sky.step(1);
        Due.same("advice with no time to turn", Due.adviceOf(sky, 0, 1), "1 4 1 0 -1");
        Due.same("all", Due.allOf(sky), "1 0 1 0 2");
    }

    /** Within NEAR advice stands though they part; behind it, it ends. */
    private static void endsWhenParting() {
        SkyAdvisor sky = new SkyAdvisor();
        sky.place(0, 0, 0, 0);
        sky.place(1, -200, 0, 250);
        sky.speed(1, 400, 0, 0);
        sky.follow(0, false);
        sky.follow(1, false);
        Due.same("step(1) at 200", sky.step(1), 1);
        Due.same("step(1) at 600", sky.step(1), 1);
        Due.same("step(1) at 1000", sky.step(1), 1);
        Due.same("stood", sky.pair(0, 1, 4), 2);
        Due.same("step(1) at 1400", sky.step(1), 0);
        Due.same("all", Due.allOf(sky), "1 0 0 1 4");
        Due.same("advice that ended", Due.adviceOf(sky, 0, 1), "0 0 0 0 0");
    }

    /** Side by side, closing is 0: that is not below 0, so only the alert keeps the advice. */
    private static void endsSideBySide() {
        SkyAdvisor sky = new SkyAdvisor();
        sky.place(0, 0, 0, 0);
        sky.place(1, 1000, 0, 0);
        Due.same("step(2) at NEAR", sky.step(2), 1);
        sky.set(1, 999);
        Due.same("step(1) behind NEAR", sky.step(1), 0);
        Due.same("all", Due.allOf(sky), "1 0 0 1 3");
    }

    /** Behind NEAR and too late for an alert, but closing: the advice stays. */
    private static void staysWhileClosing() {
        SkyAdvisor sky = new SkyAdvisor();
        sky.place(0, 0, 0, 0);
        sky.place(1, 3300, 0, 0);
        sky.speed(1, -100, 0, 0);
        Due.same("step(1) in time", sky.step(1), 1);
        sky.set(0, 1);
        Due.same("step(1) too late", sky.step(1), 1);
        Due.same("alert", sky.pair(0, 1, 0), 0);
        Due.same("stood", sky.pair(0, 1, 4), 1);
    }
}
