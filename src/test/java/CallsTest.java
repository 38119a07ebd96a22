/** An object is used for 512 calls: up to the last of them it answers as due, refused ones too. */
public final class CallsTest {
    private static final int CALLS = 512;

    public static void main(String[] args) {
        answersTheLastCall();
        refusedCallsLeaveTheRestAlone();
        longestStepsOfAllSix();
        Due.end();
    }

    private static void answersTheLastCall() {
        SkyAdvisor sky = new SkyAdvisor();
        sky.place(0, 0, 0, 0);
        sky.speed(0, 1, 0, 0);
        for (int call = 3; call < CALLS; call++) {
            Due.same("call " + call, sky.step(1), 0);
        }
        Due.same("the last call", sky.told(0, 0), CALLS - 3);
    }

    private static void refusedCallsLeaveTheRestAlone() {
        SkyAdvisor sky = new SkyAdvisor();
        sky.place(0, 7, 0, 0);
        int refused = 0;
        for (int call = 2; call < CALLS; call++) {
            try {
                sky.place(0, 8, 0, 20001);
            } catch (IllegalArgumentException e) {
                refused++;
            }
        }
        Due.same("refused calls", refused, CALLS - 2);
        Due.same("the last call", sky.told(0, 0), 7);
    }

    /** The dearest calls there are: six that part, come to the bounds of height, and stay there. */
    private static void longestStepsOfAllSix() {
        SkyAdvisor sky = new SkyAdvisor();
        for (int i = 0; i < 6; i++) {
            sky.place(i, i, i, i);
        }
        for (int call = 7; call < CALLS; call++) {
            sky.step(300);
        }
        Due.same("the last call", sky.all(4), (CALLS - 7) * 300);
    }
}
