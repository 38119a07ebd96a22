/** Promise 6: leave. */
public final class LeaveTest {
    public static void main(String[] args) {
        isGone();
        isNotLookedAtWhenGone();
        emptiesTheSky();
        refusesThoseNotThere();
        Due.end();
    }

    private static void isGone() {
        for (int number = 0; number < 6; number++) {
            SkyAdvisor sky = Scenes.full();
            sky.leave(number);
            Due.same("told of " + number, Due.toldOf(sky, number), "gone");
            for (int other = 0; other < 6; other++) {
                String due = other == number ? "gone" : Due.toldOf(Scenes.full(), other);
                Due.same("told of " + other + " when " + number + " is gone", Due.toldOf(sky, other), due);
                Due.same("pair " + number + " " + other, Due.pairOf(sky, number, other), "none");
                Due.same("pair " + other + " " + number, Due.pairOf(sky, other, number), "none");
            }
            Due.same("pairs with advice", sky.step(0), 10);
        }
    }

    /** Gone, it neither moves nor comes nearer, nor gets advice. */
    private static void isNotLookedAtWhenGone() {
        SkyAdvisor sky = Scenes.two(300, 400, 60, -300, -400, -60);
        sky.leave(3);
        Due.same("step(1) with one that is gone", sky.step(1), 0);
        Due.same("all", Due.allOf(sky), "0 0 0 0 1");
        sky.place(3, 300, 400, 60);
        Due.same("least distance since it came back", sky.pair(1, 3, 9), 250000);
        Due.same("least height since it came back", sky.pair(1, 3, 10), 60);
        Due.same("step(1) when it is back", sky.step(1), 1);
    }

    private static void emptiesTheSky() {
        SkyAdvisor sky = Scenes.full();
        int[] left = {10, 6, 3, 1, 0, 0};
        for (int i = 0; i < 6; i++) {
            sky.leave(i);
            Due.same("pairs with advice when " + i + " is gone", sky.step(0), left[i]);
        }
        Due.same("step(300) over an empty sky", sky.step(300), 0);
        Due.same("all", Due.allOf(sky), "15 0 0 0 303");
        for (int i = 0; i < 6; i++) {
            sky.place(i, i, i, i);
            Due.same("told when it comes back", Due.toldOf(sky, i), i + " " + i + " " + i + " 0 0 0 1");
        }
    }

    /** Of those not there, 4 has left and 5 never came. */
    private static void refusesThoseNotThere() {
        for (int i : new int[] {-2, -1, 6, 7}) {
            Due.refusedEverywhere("leave(" + i + ")", sky -> sky.leave(i));
        }
        for (int i : Due.FAR_OFF) {
            Due.refused("leave(" + i + ")", Scenes::busy, sky -> sky.leave(i));
        }
        Due.refused("leave(4)", Scenes::busy, sky -> sky.leave(4));
        Due.refused("leave(5)", Scenes::busy, sky -> sky.leave(5));
    }
}
