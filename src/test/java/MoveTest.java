/** Terms, "a second", 1.: each aircraft moves by its speed, and places stop at their bounds. */
public final class MoveTest {
    public static void main(String[] args) {
        movesByItsSpeed();
        for (int axis = 0; axis < 3; axis++) {
            stopsAtBound(axis, 1);
            stopsAtBound(axis, -1);
        }
        stopsOnOneAxisAlone();
        keepsItsSpeedAtTheBound();
        movesBeforeItHeeds();
        Due.end();
    }

    private static void movesByItsSpeed() {
        SkyAdvisor sky = new SkyAdvisor();
        for (int i = 0; i < 6; i++) {
            sky.place(i, 30000 * i, 1, 2);
            sky.speed(i, i, -10 * i, 5 - i);
        }
        sky.step(3);
        for (int i = 0; i < 6; i++) {
            String place = (30000 * i + 3 * i) + " " + (1 - 30 * i) + " " + (2 + 3 * (5 - i));
            Due.same("told of " + i, Due.toldOf(sky, i), place + " " + i + " " + -10 * i + " " + (5 - i) + " 1");
        }
    }

    /** One short of the bound, right at it, one beyond it, and from the bound on. */
    private static void stopsAtBound(int axis, int side) {
        int bound = side * (axis == 2 ? 20000 : 200000);
        int fast = side * (axis == 2 ? 60 : 500);
        int[][] rows = {
            {bound - fast - side, bound - side}, {bound - fast, bound}, {bound - fast + side, bound},
            {bound - side, bound}, {bound, bound},
        };
        for (int[] row : rows) {
            SkyAdvisor sky = new SkyAdvisor();
            int[] place = {3, 4, 5};
            int[] speed = {0, 0, 0};
            place[axis] = row[0];
            speed[axis] = fast;
            sky.place(2, place[0], place[1], place[2]);
            sky.speed(2, speed[0], speed[1], speed[2]);
            sky.step(1);
            Due.same("axis " + axis + " from " + row[0], sky.told(2, axis), row[1]);
            sky.step(300);
            Due.same("axis " + axis + " in the end", sky.told(2, axis), bound);
        }
    }

    private static void stopsOnOneAxisAlone() {
        SkyAdvisor sky = new SkyAdvisor();
        sky.place(0, 199999, -199990, 19999);
        sky.speed(0, 7, -7, -7);
        sky.step(1);
        Due.same("told", Due.toldOf(sky, 0), "200000 -199997 19992 7 -7 -7 1");
        sky.step(1);
        Due.same("told", Due.toldOf(sky, 0), "200000 -200000 19985 7 -7 -7 1");
    }

    private static void keepsItsSpeedAtTheBound() {
        SkyAdvisor sky = new SkyAdvisor();
        sky.place(0, 200000, 200000, 20000);
        sky.speed(0, 500, 500, 60);
        sky.step(2);
        Due.same("told", Due.toldOf(sky, 0), "200000 200000 20000 500 500 60 1");
        sky.speed(0, -1, -2, -3);
        sky.step(1);
        Due.same("told off the bounds", Due.toldOf(sky, 0), "199999 199998 19997 -1 -2 -3 1");
    }

    private static void movesBeforeItHeeds() {
        SkyAdvisor sky = Scenes.addNear(Scenes.withSettings(30, 1000, 2000, 250, 200, 0, 8), 0, 0);
        sky.step(2);
        Due.same("z when vz has just grown", sky.told(0, 2), 0);
        Due.same("vz", sky.told(0, 5), 8);
        sky.step(1);
        Due.same("z a second later", sky.told(0, 2), 8);
    }
}
