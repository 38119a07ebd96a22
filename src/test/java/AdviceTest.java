/** Terms, "a second", 3.: advice begins, stands, grows and ends; what it is, promise 9 tells. */
public final class AdviceTest {
    public static void main(String[] args) {
        beginsInTheFirstSecondThatAlerts();
        beginsBehindTheMove();
        standsLessThanDelay();
        standsAsLongAsDelayAndMore();
        growsWhenItPartsByLessThanWanted();
        staysWhenItPartsByWanted();
        hasStoodOneMoreBeforeItGrows();
        growsNoWeaker();
        staysWhileTheyAlert();
        staysWhileTheyClose();
        endsWhenClosingIsNone();
        endsWhenTheyPart();
        endsInHeight();
        beginsAnewWhenItHasEnded();
        Due.end();
    }

    private static void beginsInTheFirstSecondThatAlerts() {
        SkyAdvisor sky = Scenes.two(3403, 0, 100, -100, 0, 0);
        Due.same("advice before any second", Due.adviceOf(sky, 1, 3), "0 0 0 0 0");
        Due.same("step(1) too late", sky.step(1), 0);
        Due.same("advice without alert", Due.adviceOf(sky, 1, 3), "0 0 0 0 0");
        Due.same("step(1) in time", sky.step(1), 1);
        Due.same("advice that begins", Due.adviceOf(sky, 1, 3), "2 1 0 0 700");
        Due.same("advice that begins, in the other order", Due.adviceOf(sky, 3, 1), "1 1 0 0 700");
    }

    private static void beginsBehindTheMove() {
        SkyAdvisor sky = Scenes.two(900, 0, 0, 200, 0, 0);
        Due.same("alert before the move", sky.pair(1, 3, 0), 1);
        Due.same("step(1) out of NEAR", sky.step(1), 0);
        Due.same("all", Due.allOf(sky), "0 0 0 0 1");
    }

    private static void rows(SkyAdvisor sky, int[][] rows) {
        for (int stood = 0; stood < rows.length; stood++) {
            sky.step(1);
            String due = "2 " + rows[stood][0] + " " + stood + " 0 " + rows[stood][1];
            Due.same("advice that has stood " + stood, Due.adviceOf(sky, 1, 3), due);
        }
    }

    /** Ten seconds are left when advice begins; aircraft 3 is 100 above and goes up. */
    private static SkyAdvisor tenSeconds(int wanted, int delay) {
        SkyAdvisor sky = Scenes.two(1100, 0, 100, -100, 0, 0);
        sky.set(4, wanted);
        sky.set(5, delay);
        return sky;
    }

    /** The time left goes down by one a second, and so does what of DELAY is left. */
    private static void standsLessThanDelay() {
        rows(tenSeconds(200, 20), new int[][] {
            {4, 100}, {4, 196}, {4, 292}, {4, 388}, {4, 484}, {4, 580}, {4, 484}, {4, 388}, {4, 292}, {4, 196}, {4, 100},
        });
    }

    private static void standsAsLongAsDelayAndMore() {
        rows(tenSeconds(200, 0), new int[][] {{1, 340}, {1, 316}, {1, 292}});
        SkyAdvisor sky = tenSeconds(200, 5);
        rows(sky, new int[][] {{1, 220}, {1, 220}, {1, 220}, {1, 220}, {1, 220}, {1, 220}});
        sky.step(1);
        Due.same("advice that has stood more", Due.adviceOf(sky, 1, 3), "2 2 6 0 292");
    }

    private static void growsWhenItPartsByLessThanWanted() {
        SkyAdvisor sky = tenSeconds(200, 3);
        rows(sky, new int[][] {
            {1, 268}, {1, 268}, {1, 268}, {1, 268}, {1, 244}, {1, 220}, {2, 292}, {2, 244}, {3, 244}, {4, 196}, {4, 100},
        });
        Due.same("all", Due.allOf(sky), "1 0 3 0 11");
    }

    private static void staysWhenItPartsByWanted() {
        rows(tenSeconds(196, 3), new int[][] {
            {1, 268}, {1, 268}, {1, 268}, {1, 268}, {1, 244}, {1, 220}, {1, 196}, {2, 244}, {2, 196}, {4, 196},
        });
        rows(tenSeconds(197, 3), new int[][] {
            {1, 268}, {1, 268}, {1, 268}, {1, 268}, {1, 244}, {1, 220}, {2, 292},
        });
    }

    /** By 268, and by 244 if the second that has just been done were left out. */
    private static void hasStoodOneMoreBeforeItGrows() {
        rows(tenSeconds(268, 3), new int[][] {
            {1, 268}, {1, 268}, {1, 268}, {1, 268}, {2, 388}, {2, 340}, {2, 292}, {3, 316}, {4, 292}, {4, 196}, {4, 100},
        });
    }

    private static void growsNoWeaker() {
        SkyAdvisor sky = tenSeconds(341, 5);
        sky.step(1);
        Due.same("advice of strength 3", Due.adviceOf(sky, 1, 3), "2 3 0 0 460");
        sky.set(4, 0);
        sky.step(1);
        Due.same("advice when less would do", Due.adviceOf(sky, 1, 3), "2 3 1 0 460");
        sky.set(4, 461);
        sky.step(1);
        Due.same("advice when more is needed", Due.adviceOf(sky, 1, 3), "2 4 2 0 580");
    }

    /** Within NEAR advice stands though they part. */
    private static void staysWhileTheyAlert() {
        SkyAdvisor sky = Scenes.two(-200, 0, 250, 400, 0, 0);
        Due.same("step(1) at 200", sky.step(1), 1);
        Due.same("step(1) at 600", sky.step(1), 1);
        Due.same("step(1) at 1000", sky.step(1), 1);
        Due.same("stood", sky.pair(1, 3, 4), 2);
    }

    /** They alert no more, but closing is below 0. */
    private static void staysWhileTheyClose() {
        SkyAdvisor late = Scenes.two(3300, 0, 0, -100, 0, 0);
        Due.same("step(1) in time", late.step(1), 1);
        late.set(0, 1);
        Due.same("step(1) too late", late.step(1), 1);
        Due.same("alert", late.pair(1, 3, 0), 0);
        Due.same("stood", late.pair(1, 3, 4), 1);
        SkyAdvisor barely = Scenes.two(1002, -663, 0, -1, 333, 0);
        Due.same("step(1) in time", barely.step(1), 1);
        barely.set(0, 8);
        Due.same("step(1), closing is -1", barely.step(1), 1);
        Due.same("alert", barely.pair(1, 3, 0), 0);
        SkyAdvisor slow = Scenes.two(901, 0, 0, -1, 0, 0);
        Due.same("step(1) at NEAR", slow.step(1), 1);
        slow.set(1, 0);
        Due.same("step(1) far from NEAR", slow.step(1), 1);
        Due.same("alert", slow.pair(1, 3, 0), 0);
        SkyAdvisor high = Scenes.two(2000, 0, 220, -100, 0, 20);
        Due.same("step(1) within HIGH", high.step(1), 1);
        Due.same("step(1) beyond HIGH", high.step(1), 1);
        Due.same("alert", high.pair(1, 3, 0), 0);
        Due.same("all", Due.allOf(high), "1 0 0 0 2");
    }

    private static void endsWhenClosingIsNone() {
        SkyAdvisor sky = Scenes.two(1000, 0, 0, 0, 0, 0);
        Due.same("step(2) at NEAR", sky.step(2), 1);
        sky.set(1, 999);
        Due.same("step(1) beyond NEAR", sky.step(1), 0);
        Due.same("advice that ended", Due.adviceOf(sky, 1, 3), "0 0 0 0 0");
        Due.same("all", Due.allOf(sky), "1 0 0 1 3");
    }

    private static void endsWhenTheyPart() {
        SkyAdvisor sky = Scenes.two(-200, 0, 250, 400, 0, 0);
        Due.same("step(3) up to NEAR", sky.step(3), 1);
        Due.same("step(1) beyond NEAR", sky.step(1), 0);
        Due.same("advice that ended", Due.adviceOf(sky, 1, 3), "0 0 0 0 0");
        Due.same("all", Due.allOf(sky), "1 0 0 1 4");
    }

    /** They follow by 12 each: 200, 200, 224 and 248 apart, then 272, which is beyond HIGH. */
    private static void endsInHeight() {
        SkyAdvisor sky = Scenes.addNear(Scenes.withSettings(30, 1000, 2000, 250, 200, 0, 60), 0, 200);
        int[] apart = {200, 200, 224, 248};
        for (int height : apart) {
            Due.same("step(1)", sky.step(1), 1);
            Due.same("they part by", sky.pair(0, 1, 6), height);
        }
        Due.same("step(1) beyond HIGH", sky.step(1), 0);
        Due.same("vz that they keep", sky.told(0, 5), -12);
        Due.same("all", Due.allOf(sky), "1 0 0 1 5");
    }

    private static void beginsAnewWhenItHasEnded() {
        SkyAdvisor sky = Scenes.two(1000, 0, 0, 0, 0, 0);
        sky.step(3);
        sky.set(1, 999);
        sky.step(1);
        sky.set(1, 1000);
        Due.same("step(0)", sky.step(0), 0);
        Due.same("step(1)", sky.step(1), 1);
        Due.same("advice that begins anew", Due.adviceOf(sky, 1, 3), "1 4 0 0 0");
        Due.same("all", Due.allOf(sky), "2 0 0 1 5");
    }
}
