/** Promise 9: pair. What alert, time left, parting and advice are, other tests ask by it. */
public final class PairTest {
    public static void main(String[] args) {
        tellsAllElevenInEitherOrder();
        tellsOfEachOfFifteen();
        isNothingWithoutAdvice();
        leastIsOfWhenBothWerePlaced();
        leastGoesDownOnly();
        leastStartsAnewWithEitherPlaced();
        leastDistanceIsCut();
        leastHeightAtItsBounds();
        leastIsLookedAtBehindTheMove();
        refusesOneAndTheSame();
        refusesThoseNotThere();
        refusesOtherQuestions();
        Due.end();
    }

    private static void tellsAllElevenInEitherOrder() {
        SkyAdvisor sky = Scenes.two(1100, 0, 100, -100, 0, 0);
        sky.step(2);
        Due.same("pair", Due.pairOf(sky, 1, 3), "1 9 2 1 1 0 220 292 2 810000 100");
        Due.same("pair, in the other order", Due.pairOf(sky, 3, 1), "1 9 1 1 1 0 220 292 1 810000 100");
        SkyAdvisor busy = Scenes.busy();
        Due.same("turned pair", Due.pairOf(busy, 0, 1), "0 1 2 4 0 1 197 197 2 3240000 101");
        Due.same("turned pair, in the other order", Due.pairOf(busy, 1, 0), "0 1 1 4 0 1 197 197 1 3240000 101");
    }

    /** The distances tell which two were looked at. */
    private static void tellsOfEachOfFifteen() {
        SkyAdvisor sky = new SkyAdvisor();
        int[] x = {0, 1, 3, 7, 12, 20};
        for (int i = 0; i < 6; i++) {
            sky.place(i, x[i], 0, x[i] * 2);
        }
        for (int i = 0; i < 6; i++) {
            for (int j = 0; j < 6; j++) {
                if (i != j) {
                    int apart = Math.abs(x[i] - x[j]);
                    Due.same("least distance " + i + " " + j, sky.pair(i, j, 9), apart * apart);
                    Due.same("least height " + i + " " + j, sky.pair(i, j, 10), 2 * apart);
                }
            }
        }
    }

    private static void isNothingWithoutAdvice() {
        SkyAdvisor sky = Scenes.two(0, 0, 70, 0, 0, 0);
        Due.same("pair that alerts without advice", Due.pairOf(sky, 1, 3), "1 0 0 0 0 0 0 70 2 0 70");
        Due.same("in the other order", Due.pairOf(sky, 3, 1), "1 0 0 0 0 0 0 70 1 0 70");
    }

    private static void leastIsOfWhenBothWerePlaced() {
        SkyAdvisor sky = Scenes.two(30, 40, -50, 0, 0, 0);
        Due.same("least distance before any second", sky.pair(1, 3, 9), 2500);
        Due.same("least height before any second", sky.pair(1, 3, 10), 50);
        sky.place(3, 0, 0, 0);
        Due.same("least distance at the same place", sky.pair(1, 3, 9), 0);
        Due.same("least height at the same place", sky.pair(1, 3, 10), 0);
    }

    /** Distance and height are least at different times. */
    private static void leastGoesDownOnly() {
        SkyAdvisor sky = Scenes.two(40, 30, -50, -10, 0, 30);
        int[][] rows = {{1800, 20}, {1300, 10}, {1000, 10}, {900, 10}, {900, 10}, {900, 10}};
        for (int[] row : rows) {
            sky.step(1);
            Due.same("least distance", sky.pair(3, 1, 9), row[0]);
            Due.same("least height", sky.pair(1, 3, 10), row[1]);
        }
    }

    private static void leastStartsAnewWithEitherPlaced() {
        SkyAdvisor sky = Scenes.two(40, 30, -50, -10, 0, 30);
        sky.step(7);
        sky.place(5, 0, 0, 0);
        Due.same("least distance when another comes", sky.pair(1, 3, 9), 900);
        Due.same("least height when another comes", sky.pair(1, 3, 10), 10);
        sky.place(1, 0, 0, 0);
        Due.same("least distance since the first was placed", sky.pair(1, 3, 9), 1800);
        Due.same("least height since the first was placed", sky.pair(1, 3, 10), 160);
        sky.place(3, 300, 400, 7);
        Due.same("least distance since the second was placed", sky.pair(1, 3, 9), 250000);
        Due.same("least height since the second was placed", sky.pair(1, 3, 10), 7);
        sky.leave(1);
        sky.place(1, 300, 401, 207);
        Due.same("least distance since one came back", sky.pair(1, 3, 9), 1);
        Due.same("least height since one came back", sky.pair(1, 3, 10), 200);
    }

    /** Two squares make 2147483636 and then 2147483648, but nothing between them. */
    private static void leastDistanceIsCut() {
        int[][] rows = {
            {46340, 200, 2147435600}, {32768, 32767, 2147418113}, {-45994, 5660, 2147483636},
            {32768, 32768, 2147483647}, {46341, 0, 2147483647}, {0, -46341, 2147483647},
            {65536, 0, 2147483647}, {200000, 200000, 2147483647},
        };
        for (int[] row : rows) {
            SkyAdvisor sky = Scenes.two(row[0], row[1], 0, 0, 0, 0);
            Due.same("least distance", sky.pair(1, 3, 9), row[2]);
            Due.same("least distance, in the other order", sky.pair(3, 1, 9), row[2]);
        }
        SkyAdvisor corners = new SkyAdvisor();
        corners.place(0, -200000, -200000, 0);
        corners.place(1, 200000, 200000, 0);
        Due.same("least distance from corner to corner", corners.pair(0, 1, 9), 2147483647);
        SkyAdvisor nearing = Scenes.two(46400, 0, 0, -60, 0, 0);
        Due.same("least distance that is cut", nearing.pair(1, 3, 9), 2147483647);
        nearing.step(1);
        Due.same("least distance that is cut no more", nearing.pair(1, 3, 9), 2147395600);
    }

    private static void leastHeightAtItsBounds() {
        SkyAdvisor sky = new SkyAdvisor();
        sky.place(0, 0, 0, -20000);
        sky.place(1, 0, 0, 20000);
        Due.same("least height from bound to bound", sky.pair(0, 1, 10), 40000);
        sky.speed(0, 0, 0, -60);
        sky.speed(1, 0, 0, 60);
        sky.step(5);
        Due.same("least height at the bounds", sky.pair(0, 1, 10), 40000);
    }

    /** What lies between two seconds is not looked at: 3 passes 1 without being seen at it. */
    private static void leastIsLookedAtBehindTheMove() {
        SkyAdvisor sky = Scenes.two(-100, 0, -20, 300, 0, 60);
        sky.step(1);
        Due.same("least distance", sky.pair(1, 3, 9), 10000);
        Due.same("least height", sky.pair(1, 3, 10), 20);
    }

    private static void refusesOneAndTheSame() {
        for (int number = 0; number < 6; number++) {
            int i = number;
            Due.refusedEverywhere("pair(" + i + ", " + i + ", 0)", sky -> sky.pair(i, i, 0));
        }
        Due.refused("pair(-1, -1, 0)", Scenes::full, sky -> sky.pair(-1, -1, 0));
        Due.refused("pair(6, 6, 0)", Scenes::full, sky -> sky.pair(6, 6, 0));
    }

    /** Of those not there, 4 has left and 5 never came. */
    private static void refusesThoseNotThere() {
        for (int i : new int[] {-2, -1, 6, 7}) {
            Due.refusedEverywhere("pair(" + i + ", 0, 0)", sky -> sky.pair(i, 0, 0));
            Due.refusedEverywhere("pair(0, " + i + ", 0)", sky -> sky.pair(0, i, 0));
        }
        for (int i : Due.FAR_OFF) {
            Due.refused("pair(" + i + ", 0, 0)", Scenes::busy, sky -> sky.pair(i, 0, 0));
            Due.refused("pair(0, " + i + ", 0)", Scenes::busy, sky -> sky.pair(0, i, 0));
        }
        for (int question = 0; question <= 10; question++) {
            int what = question;
            Due.refused("pair(0, 4, " + what + ")", Scenes::busy, sky -> sky.pair(0, 4, what));
            Due.refused("pair(5, 0, " + what + ")", Scenes::busy, sky -> sky.pair(5, 0, what));
            Due.refused("pair(4, 5, " + what + ")", Scenes::busy, sky -> sky.pair(4, 5, what));
        }
    }

    private static void refusesOtherQuestions() {
        for (int what : new int[] {-2, -1, 11, 12}) {
            Due.refusedEverywhere("pair(0, 1, " + what + ")", sky -> sky.pair(0, 1, what));
            Due.refusedEverywhere("pair(1, 0, " + what + ")", sky -> sky.pair(1, 0, what));
        }
        for (int what : Due.FAR_OFF) {
            Due.refused("pair(0, 1, " + what + ")", Scenes::busy, sky -> sky.pair(0, 1, what));
        }
    }
}
