/** Terms, "they alert", asked by promise 9: each of its bounds, just within it and just beyond. */
public final class AlertTest {
    public static void main(String[] args) {
        near();
        nearAtItsLeastAndMost();
        nearWhateverTheyDo();
        notClosing();
        closingByOne();
        inTime();
        timeAtItsLeastAndMost();
        miss();
        missAtItsLeastAndMost();
        heightApart();
        heightAtItsLeastAndMost();
        heightInTime();
        heightInTimeAtItsMost();
        allThreeMustHold();
        numbersBeyondInt();
        placesAtTheirBounds();
        onlyDifferencesCount();
        Due.end();
    }

    private static void alert(String what, SkyAdvisor sky, int want) {
        Due.same("alert, " + what, sky.pair(1, 3, 0), want);
        Due.same("alert, " + what + ", in the other order", sky.pair(3, 1, 0), want);
    }

    /** Settings TIME, NEAR, MISS, HIGH; aircraft 1 at rest at 0, 0, 0. */
    private static SkyAdvisor two(int[] settings, int x, int y, int z, int u, int v, int w) {
        return Scenes.addTwo(Scenes.withSettings(settings), x, y, z, u, v, w);
    }

    private static int[] settings(int... values) {
        return values;
    }

    private static void near() {
        alert("at the same place", Scenes.two(0, 0, 0, 0, 0, 0), 1);
        alert("at NEAR along x", Scenes.two(1000, 0, 0, 0, 0, 0), 1);
        alert("beyond NEAR along x", Scenes.two(1001, 0, 0, 0, 0, 0), 0);
        alert("at NEAR along -y", Scenes.two(0, -1000, 0, 0, 0, 0), 1);
        alert("beyond NEAR along -y", Scenes.two(0, -1001, 0, 0, 0, 0), 0);
        alert("at NEAR aslant", Scenes.two(600, -800, 0, 0, 0, 0), 1);
        alert("beyond NEAR aslant", Scenes.two(601, -800, 0, 0, 0, 0), 0);
        alert("just beyond NEAR", Scenes.two(1000, 1, 0, 0, 0, 0), 0);
    }

    private static void nearAtItsLeastAndMost() {
        int[] least = settings(30, 0);
        alert("NEAR 0 at the same place", two(least, 0, 0, 0, 0, 0, 0), 1);
        alert("NEAR 0, one apart", two(least, 1, 0, 0, 0, 0, 0), 0);
        alert("NEAR 0, one apart the other way", two(least, 0, -1, 0, 0, 0, 0), 0);
        int[] most = settings(30, 5000);
        alert("NEAR 5000 at it", two(most, 3000, 4000, 0, 0, 0, 0), 1);
        alert("NEAR 5000 beyond it", two(most, 3000, 4001, 0, 0, 0, 0), 0);
    }

    private static void nearWhateverTheyDo() {
        int[] noMiss = settings(30, 1000, 0);
        alert("at NEAR, parting", two(noMiss, 600, -800, 0, 400, -400, 0), 1);
        alert("at NEAR, across", two(noMiss, 1000, 0, 0, 0, 500, 0), 1);
        alert("beyond NEAR, parting", two(noMiss, 601, -800, 0, 400, -400, 0), 0);
    }

    private static void notClosing() {
        alert("closing is 0, at rest", Scenes.two(1001, 0, 0, 0, 0, 0), 0);
        alert("closing is 0, across", Scenes.two(1001, 0, 0, 0, 500, 0), 0);
        alert("closing is 0, aslant", Scenes.two(1000, 4, 0, -1, 250, 0), 0);
        alert("closing is above 0", Scenes.two(1001, 0, 0, 1, 0, 0), 0);
        alert("closing is below 0", Scenes.two(1001, 0, 0, -1, 0, 0), 1);
    }

    /** x x + y y is NEAR squared and 9, closing is -1: 9 seconds are needed. */
    private static void closingByOne() {
        alert("closing is -1, TIME 9", two(settings(9), 1000, 3, 0, -1, 333, 0), 1);
        alert("closing is -1, TIME 8", two(settings(8), 1000, 3, 0, -1, 333, 0), 0);
    }

    private static void inTime() {
        alert("in TIME", Scenes.two(3302, 0, 0, -100, 0, 0), 1);
        alert("too late", Scenes.two(3303, 0, 0, -100, 0, 0), 0);
        int[] nowhereNear = settings(30, 0);
        alert("at TIME", two(nowhereNear, 0, 3000, 0, 0, -100, 0), 1);
        alert("beyond TIME", two(nowhereNear, 0, 3001, 0, 0, -100, 0), 0);
        alert("at TIME from the other side", two(nowhereNear, -3000, 0, 0, 100, 0, 0), 1);
        alert("beyond TIME from the other side", two(nowhereNear, -3001, 0, 0, 100, 0, 0), 0);
    }

    private static void timeAtItsLeastAndMost() {
        alert("at TIME 1", two(settings(1, 0), 500, 0, 0, -500, 0, 0), 1);
        alert("beyond TIME 1", two(settings(1, 0), 501, 0, 0, -500, 0, 0), 0);
        alert("at TIME 100", two(settings(100, 0), 50000, 0, 0, -500, 0, 0), 1);
        alert("beyond TIME 100", two(settings(100, 0), 50001, 0, 0, -500, 0, 0), 0);
    }

    private static void miss() {
        int[] long100 = settings(100);
        alert("at MISS", two(long100, 1500, 2000, 0, -100, 0, 0), 1);
        alert("beyond MISS", two(long100, 1500, 2001, 0, -100, 0, 0), 0);
        alert("at MISS on the other side", two(long100, 1500, -2000, 0, -100, 0, 0), 1);
        alert("beyond MISS on the other side", two(long100, 1500, -2001, 0, -100, 0, 0), 0);
        alert("at MISS along y", two(long100, -2000, 1500, 0, 0, -100, 0), 1);
        alert("beyond MISS along y", two(long100, -2001, 1500, 0, 0, -100, 0), 0);
    }

    private static void missAtItsLeastAndMost() {
        int[] least = settings(100, 1000, 0);
        alert("MISS 0, straight on", two(least, 1200, 1600, 0, -300, -400, 0), 1);
        alert("MISS 0, one aside", two(least, 1201, 1600, 0, -300, -400, 0), 0);
        int[] most = settings(100, 1000, 5000);
        alert("at MISS 5000", two(most, 9000, 5000, 0, -500, 0, 0), 1);
        alert("beyond MISS 5000", two(most, 9000, 5001, 0, -500, 0, 0), 0);
    }

    private static void heightApart() {
        alert("at HIGH above", Scenes.two(0, 0, 250, 0, 0, 0), 1);
        alert("beyond HIGH above", Scenes.two(0, 0, 251, 0, 0, 0), 0);
        alert("at HIGH below", Scenes.two(0, 0, -250, 0, 0, 0), 1);
        alert("beyond HIGH below", Scenes.two(0, 0, -251, 0, 0, 0), 0);
        alert("at HIGH, climbing away", Scenes.two(0, 0, 250, 0, 0, 60), 1);
        alert("at HIGH below, sinking away", Scenes.two(0, 0, -250, 0, 0, -60), 1);
    }

    private static void heightAtItsLeastAndMost() {
        int[] least = settings(30, 1000, 2000, 0);
        alert("HIGH 0, same height", two(least, 0, 0, 0, 0, 0, 0), 1);
        alert("HIGH 0, same height, climbing", two(least, 0, 0, 0, 0, 0, 60), 1);
        alert("HIGH 0, one above", two(least, 0, 0, 1, 0, 0, 0), 0);
        alert("HIGH 0, one below", two(least, 0, 0, -1, 0, 0, 0), 0);
        int[] most = settings(30, 1000, 2000, 2000);
        alert("at HIGH 2000", two(most, 0, 0, 2000, 0, 0, 0), 1);
        alert("beyond HIGH 2000", two(most, 0, 0, -2001, 0, 0, 0), 0);
    }

    private static void heightInTime() {
        alert("sinking in TIME", Scenes.two(0, 0, 270, 0, 0, -9), 1);
        alert("sinking too late", Scenes.two(0, 0, 271, 0, 0, -9), 0);
        alert("climbing away", Scenes.two(0, 0, 270, 0, 0, 9), 0);
        alert("climbing in TIME", Scenes.two(0, 0, -270, 0, 0, 9), 1);
        alert("climbing too late", Scenes.two(0, 0, -271, 0, 0, 9), 0);
        alert("sinking away", Scenes.two(0, 0, -270, 0, 0, -9), 0);
        int[] noHeight = settings(30, 1000, 2000, 0);
        alert("sinking long before TIME", Scenes.two(0, 0, 251, 0, 0, -9), 1);
        alert("climbing long before TIME", Scenes.two(0, 0, -251, 0, 0, 60), 1);
        alert("HIGH 0, one above, sinking by one", two(noHeight, 0, 0, 1, 0, 0, -1), 1);
        alert("HIGH 0, one below, climbing by one", two(noHeight, 0, 0, -1, 0, 0, 1), 1);
        alert("HIGH 0, sinking by one", two(noHeight, 0, 0, 30, 0, 0, -1), 1);
        alert("HIGH 0, sinking by one, too late", two(noHeight, 0, 0, 31, 0, 0, -1), 0);
        alert("TIME 1, climbing", two(settings(1, 1000, 2000, 0), 0, 0, -60, 0, 0, 60), 1);
        alert("TIME 1, climbing too late", two(settings(1, 1000, 2000, 0), 0, 0, -61, 0, 0, 60), 0);
    }

    /** The speed between the two is 120, twice what one can have. */
    private static void heightInTimeAtItsMost() {
        SkyAdvisor sky = two(settings(100), 0, 0, 12000, 0, 0, -60);
        sky.speed(1, 0, 0, 60);
        alert("at TIME 100 times 120", sky, 1);
        sky.place(3, 0, 0, 12001);
        alert("beyond TIME 100 times 120", sky, 0);
        sky.place(1, 0, 0, -20000);
        sky.place(3, 0, 0, 20000);
        alert("40000 apart", sky, 0);
    }

    /** Each row breaks one of the three alone, but for the first, which breaks none. */
    private static void allThreeMustHold() {
        alert("all hold", Scenes.two(3000, 1500, 250, -200, 0, 0), 1);
        alert("but not in TIME", Scenes.two(3000, 1500, 250, -100, 0, 0), 0);
        alert("but not within MISS", Scenes.two(3000, 2001, 250, -300, 0, 0), 0);
        alert("but not in height", Scenes.two(3000, 1500, 251, -200, 0, 0), 0);
        alert("near, but not in height", Scenes.two(0, 0, 251, 0, 0, 1), 0);
    }

    /** Whoever counts in int gets these wrong: squares and products go far beyond it. */
    private static void numbersBeyondInt() {
        int[] wide = settings(100, 0, 0);
        SkyAdvisor sky = two(wide, 100000, 0, 0, -500, 0, 0);
        sky.speed(1, 500, 0, 0);
        alert("10000000000 is at TIME", sky, 1);
        sky.place(3, 100001, 0, 0);
        alert("10000200001 is beyond TIME", sky, 0);
        alert("65536 squared is not 0", two(wide, 65536, 0, 0, 0, 0, 0), 0);
        alert("46341 squared is not below 0", two(wide, 0, 46341, 0, 0, 0, 0), 0);
        SkyAdvisor aside = two(settings(100, 5000, 5000), 90000, 5000, 0, -500, 0, 0);
        aside.speed(1, 500, 0, 0);
        alert("25000000000000 is at MISS", aside, 1);
        aside.place(3, 90000, 5001, 0);
        alert("25010001000000 is beyond MISS", aside, 0);
    }

    private static void placesAtTheirBounds() {
        SkyAdvisor sky = Scenes.withSettings(100, 5000, 5000, 2000);
        sky.place(1, -200000, -200000, 0);
        sky.place(3, 200000, 200000, 0);
        sky.speed(1, 500, 500, 0);
        sky.speed(3, -500, -500, 0);
        alert("from corner to corner", sky, 0);
        sky.place(1, 200000, 199000, 20000);
        sky.place(3, 200000, 200000, 20000);
        alert("in a corner", sky, 1);
        Due.same("step(1) out of the corner", sky.step(1), 1);
    }

    /** Rows of x, y, z, u, v, w and whether they alert, at TIME 30. */
    private static void onlyDifferencesCount() {
        int[][] rows = {
            {600, -800, 0, 0, 0, 0, 1}, {601, -800, 0, 0, 0, 0, 0}, {600, -801, 0, 0, 0, 0, 0},
            {3302, 0, 0, -100, 0, 0, 1}, {3303, 0, 0, -100, 0, 0, 0},
            {0, -3302, 0, 0, 100, 0, 1}, {0, -3303, 0, 0, 100, 0, 0}, {0, -3302, 0, 0, -100, 0, 0},
            {1500, 2000, 0, -300, 0, 0, 1}, {1500, 2001, 0, -300, 0, 0, 0}, {1500, -2001, 0, -300, 0, 0, 0},
            {2000, -1500, 0, 0, 300, 0, 1}, {2001, -1500, 0, 0, 300, 0, 0}, {-2001, -1500, 0, 0, 300, 0, 0},
            {0, 0, 250, 0, 0, 0, 1}, {0, 0, 251, 0, 0, 0, 0}, {0, 0, -250, 0, 0, 0, 1}, {0, 0, -251, 0, 0, 0, 0},
            {0, 0, 270, 0, 0, -9, 1}, {0, 0, 271, 0, 0, -9, 0}, {0, 0, -270, 0, 0, 9, 1}, {0, 0, -271, 0, 0, 9, 0},
        };
        for (int[] row : rows) {
            SkyAdvisor sky = new SkyAdvisor();
            Scenes.addTwoElsewhere(sky, row[0], row[1], row[2], row[3], row[4], row[5]);
            alert("elsewhere, at " + row[0] + ", " + row[1] + ", " + row[2], sky, row[6]);
        }
    }
}
