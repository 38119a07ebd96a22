/** Promise 1: a new object has no aircraft, and settings as at first. */
public final class NewObjectTest {
    public static void main(String[] args) {
        SkyAdvisor sky = new SkyAdvisor();
        for (int i = 0; i < 6; i++) {
            int number = i;
            Due.same("told of " + i, Due.toldOf(sky, i), "gone");
            Due.refused("leave(" + i + ")", sky, () -> sky.leave(number));
        }
        Due.same("settings", Due.settingsOf(sky), "30 1000 2000 250 200 5 8");
        Due.same("all", Due.allOf(sky), "0 0 0 0 0");
        Due.same("step(0)", sky.step(0), 0);
        Due.same("step(300)", sky.step(300), 0);
        Due.same("all", Due.allOf(sky), "0 0 0 0 300");
        objectsShareNothing();
        Due.end();
    }

    private static void objectsShareNothing() {
        SkyAdvisor one = new SkyAdvisor();
        SkyAdvisor other = new SkyAdvisor();
        one.set(0, 7);
        one.place(0, 1, 2, 3);
        one.step(4);
        Due.same("settings of the other", Due.settingsOf(other), "30 1000 2000 250 200 5 8");
        Due.same("settings of a later one", Due.settingsOf(new SkyAdvisor()), "30 1000 2000 250 200 5 8");
        Due.same("told of the other", Due.toldOf(other, 0), "gone");
        Due.same("all of the other", Due.allOf(other), "0 0 0 0 0");
    }
}
