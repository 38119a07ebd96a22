/** Promise 8: told. */
public final class ToldTest {
    public static void main(String[] args) {
        tellsEachOfSeven();
        tellsOfNowAndChangesNothing();
        refusesOtherQuestions();
        refusesThoseNotThere();
        Due.end();
    }

    private static void tellsEachOfSeven() {
        SkyAdvisor sky = new SkyAdvisor();
        sky.place(4, -11, 22, -33);
        sky.speed(4, 44, -55, 6);
        int[] due = {-11, 22, -33, 44, -55, 6, 1};
        for (int what = 0; what <= 6; what++) {
            Due.same("told(4, " + what + ")", sky.told(4, what), due[what]);
        }
        sky.follow(4, false);
        Due.same("told(4, 6)", sky.told(4, 6), 0);
    }

    private static void tellsOfNowAndChangesNothing() {
        SkyAdvisor sky = new SkyAdvisor();
        sky.place(0, -11, 22, -33);
        sky.speed(0, 44, -55, 6);
        sky.step(2);
        Due.same("told behind two seconds", Due.toldOf(sky, 0), "77 -88 -21 44 -55 6 1");
        Due.same("told again", Due.toldOf(sky, 0), "77 -88 -21 44 -55 6 1");
    }

    private static void refusesOtherQuestions() {
        for (int what : new int[] {-2, -1, 7, 8}) {
            Due.refusedEverywhere("told(0, " + what + ")", sky -> sky.told(0, what));
        }
        for (int what : Due.FAR_OFF) {
            Due.refused("told(0, " + what + ")", Scenes::busy, sky -> sky.told(0, what));
        }
    }

    /** Of those not there, 4 has left and 5 never came. */
    private static void refusesThoseNotThere() {
        for (int i : new int[] {-2, -1, 6, 7}) {
            Due.refusedEverywhere("told(" + i + ", 0)", sky -> sky.told(i, 0));
        }
        for (int i : Due.FAR_OFF) {
            Due.refused("told(" + i + ", 0)", Scenes::busy, sky -> sky.told(i, 0));
        }
        for (int question = 0; question <= 6; question++) {
            int what = question;
            Due.refused("told(4, " + what + ")", Scenes::busy, sky -> sky.told(4, what));
            Due.refused("told(5, " + what + ")", Scenes::busy, sky -> sky.told(5, what));
        }
    }
}
