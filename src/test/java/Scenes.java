/** Objects that several tests start from. */
final class Scenes {
    private Scenes() {
    }

    static SkyAdvisor withSettings(int... values) {
        SkyAdvisor sky = new SkyAdvisor();
        for (int which = 0; which < values.length; which++) {
            sky.set(which, values[which]);
        }
        return sky;
    }

    /** Aircraft 1 at rest at 0, 0, 0 and 3, so that place and speed are those of the two. */
    static SkyAdvisor two(int x, int y, int z, int u, int v, int w) {
        return addTwo(new SkyAdvisor(), x, y, z, u, v, w);
    }

    static SkyAdvisor addTwo(SkyAdvisor sky, int x, int y, int z, int u, int v, int w) {
        sky.place(1, 0, 0, 0);
        sky.place(3, x, y, z);
        sky.speed(3, u, v, w);
        sky.follow(1, false);
        sky.follow(3, false);
        return sky;
    }

    /** The same two, but neither at rest nor at 0, 0, 0: only how they differ is to count. */
    static SkyAdvisor addTwoElsewhere(SkyAdvisor sky, int x, int y, int z, int u, int v, int w) {
        sky.place(1, -5000, 7000, 300);
        sky.speed(1, 120, -80, 10);
        sky.place(3, x - 5000, y + 7000, z + 300);
        sky.speed(3, u + 120, v - 80, w + 10);
        sky.follow(1, false);
        sky.follow(3, false);
        return sky;
    }

    /** Aircraft 0 and 1 at rest near each other, time left 0, so that they part by their heights. */
    static SkyAdvisor addNear(SkyAdvisor sky, int zOf0, int zOf1) {
        sky.place(0, 0, 0, zOf0);
        sky.place(1, 100, 0, zOf1);
        return sky;
    }

    /**
     * Advice 0 1 was turned, 2 3 grew stronger, 2 4 ended; then 4 left, and 5 never came.
     * Settings are not those at first.
     */
    static SkyAdvisor busy() {
        SkyAdvisor sky = withSettings(100, 1000, 2000, 2000, 197, 0, 8);
        sky.place(0, 0, 0, 0);
        sky.place(1, 2000, 0, 301);
        sky.speed(0, 100, 0, 50);
        sky.speed(1, 0, 0, -50);
        sky.follow(0, false);
        sky.follow(1, false);
        sky.place(2, 100000, 0, 0);
        sky.place(3, 98000, 0, 0);
        sky.speed(3, 100, 0, 0);
        sky.place(4, 100000, 100, 0);
        sky.speed(4, 0, 500, 0);
        sky.step(1);
        sky.set(0, 1);
        sky.step(1);
        sky.leave(4);
        sky.set(2, 1999);
        sky.set(6, 7);
        return sky;
    }

    /**
     * All six near one another, one above the other, and all 15 pairs with advice. They fly slowly
     * apart, so that the least distances and heights are not those of now.
     */
    static SkyAdvisor full() {
        SkyAdvisor sky = new SkyAdvisor();
        for (int i = 0; i < 6; i++) {
            sky.place(i, 10 * i, -10 * i, 40 * i);
            sky.speed(i, 3 * i, -2 * i, i);
        }
        sky.step(3);
        return sky;
    }
}
