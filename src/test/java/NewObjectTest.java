/** Promise 1: a new object has no aircraft, and settings as at first. */
public final class NewObjectTest {
    private static final int[] AT_FIRST = {30, 1000, 2000, 250, 200, 5, 8};

    public static void main(String[] args) {
        hasNoAircraft();
        hasSettingsAsAtFirst();
        hasCountedNothing();
        letsTimePassOverEmptySky();
        sharesNothingWithAnother();
        Due.end();
    }

    private static void hasNoAircraft() {
        for (int number = 0; number < 6; number++) {
            int i = number;
            int j = (number + 1) % 6;
            Due.refused("told(" + i + ", 0) of a new object", SkyAdvisor::new, sky -> sky.told(i, 0));
            Due.refused("speed of " + i + " in a new object", SkyAdvisor::new, sky -> sky.speed(i, 0, 0, 0));
            Due.refused("follow of " + i + " in a new object", SkyAdvisor::new, sky -> sky.follow(i, true));
            Due.refused("leave(" + i + ") in a new object", SkyAdvisor::new, sky -> sky.leave(i));
            Due.refused("pair(" + i + ", " + j + ", 0) in a new object", SkyAdvisor::new, sky -> sky.pair(i, j, 0));
        }
    }

    private static void hasSettingsAsAtFirst() {
        for (int which = 0; which < AT_FIRST.length; which++) {
            Due.same("setting " + which + " at first", new SkyAdvisor().set(which, 1), AT_FIRST[which]);
        }
    }

    private static void hasCountedNothing() {
        Due.same("all of a new object", Due.allOf(new SkyAdvisor()), "0 0 0 0 0");
    }

    private static void letsTimePassOverEmptySky() {
        SkyAdvisor sky = new SkyAdvisor();
        Due.same("step(0) of a new object", sky.step(0), 0);
        Due.same("step(300) of a new object", sky.step(300), 0);
        Due.same("all", Due.allOf(sky), "0 0 0 0 300");
        for (int i = 0; i < 6; i++) {
            Due.same("told of " + i, Due.toldOf(sky, i), "gone");
        }
    }

    private static void sharesNothingWithAnother() {
        SkyAdvisor one = new SkyAdvisor();
        SkyAdvisor other = new SkyAdvisor();
        String before = Due.stateOf(new SkyAdvisor(), SkyAdvisor::new);
        one.set(0, 7);
        Scenes.addNear(one, 1, 2);
        one.step(4);
        Due.same("the state of an object made before", Due.stateOf(other, SkyAdvisor::new), before);
        Due.same("the state of an object made later", Due.stateOf(new SkyAdvisor(), SkyAdvisor::new), before);
    }
}
