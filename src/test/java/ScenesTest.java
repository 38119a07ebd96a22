/** The scenes that refused calls are tested on are what they say. */
public final class ScenesTest {
    public static void main(String[] args) {
        SkyAdvisor busy = Scenes.busy();
        Due.same("advice 0 1", Due.adviceOf(busy, 0, 1), "2 4 0 1 197");
        Due.same("advice 2 3", Due.adviceOf(busy, 2, 3), "1 4 1 0 96");
        Due.same("told of 4", Due.toldOf(busy, 4), "gone");
        Due.same("told of 5", Due.toldOf(busy, 5), "gone");
        Due.same("all", Due.allOf(busy), "3 1 1 1 2");
        Due.same("settings", Due.settingsOf(busy), "1 1000 1999 2000 197 0 7");
        Due.same("step(0)", busy.step(0), 2);
        SkyAdvisor full = Scenes.full();
        Due.same("step(0)", full.step(0), 15);
        Due.same("all", Due.allOf(full), "15 0 0 0 3");
        Due.same("the first and the last", Due.pairOf(full, 0, 5), "1 0 2 1 2 0 215 215 2 5000 200");
        Due.end();
    }
}
