/** Promise 3: place. */
public final class PlaceTest {
    public static void main(String[] args) {
        comesAtRestAndFollowing();
        comesBackAtRestAndFollowing();
        keepsSpeedAndFollowingWhenPlacedAnew();
        takesEachBound();
        refusesBeyondEachBound();
        refusesOtherNumbers();
        leavesOneThatIsRefusedWhereItWas();
        replacesOneOfSix();
        Due.end();
    }

    private static void comesAtRestAndFollowing() {
        SkyAdvisor sky = new SkyAdvisor();
        for (int i = 0; i < 6; i++) {
            Due.same("told of " + i + " before", Due.toldOf(sky, i), "gone");
            sky.place(i, 10 + i, -20 - i, 30 + i);
            Due.same("told of " + i, Due.toldOf(sky, i), (10 + i) + " " + (-20 - i) + " " + (30 + i) + " 0 0 0 1");
        }
    }

    private static void comesBackAtRestAndFollowing() {
        SkyAdvisor sky = new SkyAdvisor();
        sky.place(2, 1, 1, 1);
        sky.speed(2, 1, 2, 3);
        sky.follow(2, false);
        sky.leave(2);
        sky.place(2, 7, 8, 9);
        Due.same("told when it comes back", Due.toldOf(sky, 2), "7 8 9 0 0 0 1");
    }

    private static void keepsSpeedAndFollowingWhenPlacedAnew() {
        SkyAdvisor sky = new SkyAdvisor();
        sky.place(3, 1, 2, 3);
        sky.speed(3, 4, 5, 6);
        sky.follow(3, false);
        sky.place(3, 7, 8, 9);
        Due.same("told when placed anew", Due.toldOf(sky, 3), "7 8 9 4 5 6 0");
    }

    private static void takesEachBound() {
        int[][] places = {
            {200000, 1, 2}, {-200000, 1, 2}, {1, 200000, 2}, {1, -200000, 2}, {1, 2, 20000}, {1, 2, -20000},
            {200000, 200000, 20000}, {-200000, -200000, -20000}, {0, 0, 0},
        };
        for (int[] at : places) {
            SkyAdvisor sky = new SkyAdvisor();
            sky.place(5, at[0], at[1], at[2]);
            Due.same("told", Due.toldOf(sky, 5), at[0] + " " + at[1] + " " + at[2] + " 0 0 0 1");
        }
    }

    /** Of one that is there and of one that is not, which then does not come. */
    private static void refusesBeyondEachBound() {
        int[][] places = {
            {200001, 0, 0}, {-200001, 0, 0}, {0, 200001, 0}, {0, -200001, 0}, {0, 0, 20001}, {0, 0, -20001},
        };
        for (int[] at : places) {
            String call = ", " + at[0] + ", " + at[1] + ", " + at[2] + ")";
            Due.refusedEverywhere("place(0" + call, sky -> sky.place(0, at[0], at[1], at[2]));
            Due.refusedEverywhere("place(4" + call, sky -> sky.place(4, at[0], at[1], at[2]));
            Due.refused("place(5" + call, Scenes::busy, sky -> sky.place(5, at[0], at[1], at[2]));
        }
        for (int far : Due.FAR_OFF) {
            Due.refused("place(0, " + far + ", 0, 0)", Scenes::busy, sky -> sky.place(0, far, 0, 0));
            Due.refused("place(0, 0, " + far + ", 0)", Scenes::busy, sky -> sky.place(0, 0, far, 0));
            Due.refused("place(0, 0, 0, " + far + ")", Scenes::busy, sky -> sky.place(0, 0, 0, far));
        }
    }

    private static void refusesOtherNumbers() {
        for (int i : new int[] {-2, -1, 6, 7}) {
            Due.refusedEverywhere("place(" + i + ", 0, 0, 0)", sky -> sky.place(i, 0, 0, 0));
            Due.refused("place(" + i + ", 200001, 0, 0)", Scenes::busy, sky -> sky.place(i, 200001, 0, 0));
        }
        for (int i : Due.FAR_OFF) {
            Due.refused("place(" + i + ", 0, 0, 0)", Scenes::busy, sky -> sky.place(i, 0, 0, 0));
        }
    }

    private static void leavesOneThatIsRefusedWhereItWas() {
        SkyAdvisor sky = Scenes.two(60, 80, 9, 1, 2, 3);
        sky.step(1);
        String before = Due.toldOf(sky, 3) + " / " + Due.pairOf(sky, 1, 3);
        for (int[] at : new int[][] {{200001, 0, 0}, {0, 200001, 0}, {0, 0, 20001}}) {
            try {
                sky.place(3, at[0], at[1], at[2]);
                Due.same("place is refused", 0, 1);
            } catch (IllegalArgumentException e) {
                Due.same("told behind it", Due.toldOf(sky, 3) + " / " + Due.pairOf(sky, 1, 3), before);
            }
        }
        Due.same("advice stands", sky.step(0), 1);
    }

    private static void replacesOneOfSix() {
        SkyAdvisor sky = Scenes.full();
        sky.place(5, 1, 2, 3);
        Due.same("told of the sixth placed anew", Due.toldOf(sky, 5), "1 2 3 15 -10 5 1");
        Due.same("pairs with advice", sky.step(0), 10);
        sky.place(0, 4, 5, 6);
        Due.same("told of the first placed anew", Due.toldOf(sky, 0), "4 5 6 0 0 0 1");
        Due.same("pairs with advice", sky.step(0), 6);
    }
}
