/** Terms, "the time left", asked by promise 9. */
public final class TimeLeftTest {
    public static void main(String[] args) {
        isNoneWhenNotClosing();
        isRoundedDown();
        isCutToTime();
        isToldOfThoseThatDoNotAlert();
        standsLargeNumbers();
        onlyDifferencesCount();
        Due.end();
    }

    private static void left(int want, SkyAdvisor sky) {
        Due.same("time left", sky.pair(1, 3, 1), want);
        Due.same("time left, in the other order", sky.pair(3, 1, 1), want);
    }

    private static void isNoneWhenNotClosing() {
        left(0, Scenes.two(1000, 0, 0, 0, 0, 0));
        left(0, Scenes.two(0, 0, 0, 0, 0, 0));
        left(0, Scenes.two(0, 0, 0, -300, 400, 0));
        left(0, Scenes.two(1000, 0, 0, 0, 300, 0));
        left(0, Scenes.two(1000, 0, 0, 300, 0, 0));
        left(0, Scenes.two(300, -400, 0, 400, 300, 0));
        left(0, Scenes.two(1000, 0, 0, 0, 0, -60));
    }

    private static void isRoundedDown() {
        left(1, Scenes.two(1, 0, 0, -1, 0, 0));
        left(1, Scenes.two(0, -1, 0, 0, 1, 0));
        left(0, Scenes.two(1, 0, 0, -2, 0, 0));
        left(0, Scenes.two(1, 0, 0, -300, 0, 0));
        left(0, Scenes.two(299, 0, 0, -300, 0, 0));
        left(1, Scenes.two(300, 0, 0, -300, 0, 0));
        left(2, Scenes.two(899, 0, 0, -300, 0, 0));
        left(3, Scenes.two(900, 0, 0, -300, 0, 0));
        left(3, Scenes.two(901, 0, 0, -300, 0, 0));
        left(3, Scenes.two(700, 500, 0, -100, -200, 0));
        left(29, Scenes.two(-3000, 50, 0, 100, 3, 0));
    }

    private static void isCutToTime() {
        left(29, Scenes.two(8999, 0, 0, -300, 0, 0));
        left(30, Scenes.two(9000, 0, 0, -300, 0, 0));
        left(30, Scenes.two(9300, 0, 0, -300, 0, 0));
        SkyAdvisor sky = Scenes.two(30300, 0, 0, -300, 0, 0);
        sky.set(0, 1);
        left(1, sky);
        sky.set(0, 100);
        left(100, sky);
        sky.place(3, 29999, 0, 0);
        left(99, sky);
        sky.set(0, 99);
        left(99, sky);
        sky.set(0, 98);
        left(98, sky);
    }

    private static void isToldOfThoseThatDoNotAlert() {
        SkyAdvisor sky = Scenes.two(5000, 5000, 9000, -500, 0, 60);
        Due.same("alert", sky.pair(1, 3, 0), 0);
        left(10, sky);
    }

    private static void standsLargeNumbers() {
        SkyAdvisor sky = Scenes.withSettings(100);
        sky.place(1, -200000, -200000, 0);
        sky.place(3, 200000, 200000, 0);
        sky.speed(1, 500, 500, 0);
        sky.speed(3, -500, -500, 0);
        left(100, sky);
        sky.speed(1, 0, 0, 0);
        sky.speed(3, -1, 0, 0);
        left(100, sky);
        sky.speed(3, 1, 0, 0);
        left(0, sky);
    }

    /** Rows of x, y, u, v and the time left. */
    private static void onlyDifferencesCount() {
        int[][] rows = {
            {899, 0, -300, 0, 2}, {900, 0, -300, 0, 3}, {0, -899, 0, 300, 2}, {0, -900, 0, 300, 3},
            {0, 900, 0, 300, 0}, {900, 0, 0, 300, 0}, {700, 500, -100, -200, 3}, {-3000, 50, 100, 3, 29},
            {9000, 0, 0, 0, 0},
        };
        for (int[] row : rows) {
            left(row[4], Scenes.addTwoElsewhere(new SkyAdvisor(), row[0], row[1], 0, row[2], row[3], 0));
        }
    }
}
