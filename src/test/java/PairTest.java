/** Promise 9: pair, and what is said of two. */
public final class PairTest {
    public static void main(String[] args) {
        wrong();
        alertNear();
        alertInTime();
        alertByMiss();
        alertInHeight();
        alertWithLargeNumbers();
        timeLeft();
        senseChosen();
        senseChosenByHeight();
        advice();
        least();
        Due.end();
    }

    private static SkyAdvisor two(int x, int y, int z, int u, int v, int w) {
        SkyAdvisor sky = new SkyAdvisor();
        sky.place(1, 0, 0, 0);
        sky.place(3, x, y, z);
        sky.speed(3, u, v, w);
        return sky;
    }

    private static void alert(String what, SkyAdvisor sky, int want) {
        Due.same("alert " + what, sky.pair(1, 3, 0), want);
        Due.same("alert " + what + ", the other way", sky.pair(3, 1, 0), want);
    }

    private static void wrong() {
        SkyAdvisor sky = two(100, 0, 0, 0, 0, 0);
        sky.step(1);
        for (int what : new int[] {-1, 11, Integer.MIN_VALUE, Integer.MAX_VALUE}) {
            Due.refused("pair(1, 3, " + what + ")", sky, () -> sky.pair(1, 3, what));
        }
        for (int i : new int[] {-1, 0, 1, 2, 6, Integer.MIN_VALUE, Integer.MAX_VALUE}) {
            Due.refused("pair(1, " + i + ", 0)", sky, () -> sky.pair(1, i, 0));
            Due.refused("pair(" + i + ", 1, 0)", sky, () -> sky.pair(i, 1, 0));
        }
        Due.refused("pair(3, 3, 0)", sky, () -> sky.pair(3, 3, 0));
        Due.refused("pair(0, 0, 0)", sky, () -> sky.pair(0, 0, 0));
        sky.leave(3);
        Due.refused("pair with one that is gone", sky, () -> sky.pair(1, 3, 0));
    }

    private static void alertNear() {
        alert("at NEAR", two(600, -800, 0, 0, 0, 0), 1);
        alert("behind NEAR", two(601, -800, 0, 0, 0, 0), 0);
        alert("at NEAR, parting", two(600, -800, 0, 400, -400, 0), 1);
        SkyAdvisor sky = two(600, 800, 0, 400, 0, 0);
        sky.set(2, 0);
        alert("at NEAR, whatever MISS is", sky, 1);
        sky.set(1, 999);
        alert("behind a lesser NEAR", sky, 0);
    }

    private static void alertInTime() {
        alert("in time", two(3302, 0, 0, -100, 0, 0), 1);
        alert("too late", two(3303, 0, 0, -100, 0, 0), 0);
        alert("parting", two(3302, 0, 0, 100, 0, 0), 0);
        SkyAdvisor sky = two(0, 3000, 0, 0, -100, 0);
        sky.set(1, 0);
        alert("just in time", sky, 1);
        sky.place(3, 0, 3001, 0);
        alert("just too late", sky, 0);
        sky.set(0, 31);
        alert("with more TIME", sky, 1);
        SkyAdvisor across = two(1001, 0, 0, 0, 500, 0);
        alert("not closing", across, 0);
    }

    private static void alertByMiss() {
        SkyAdvisor sky = two(1500, 2000, 0, -100, 0, 0);
        sky.set(0, 100);
        alert("at MISS", sky, 1);
        sky.place(3, 1500, 2001, 0);
        alert("behind MISS", sky, 0);
        sky.place(3, 1500, -2000, 0);
        alert("at MISS on the other side", sky, 1);
        sky.set(2, 1999);
        alert("behind a lesser MISS", sky, 0);
        SkyAdvisor slant = two(1200, 1600, 0, -300, -400, 0);
        slant.set(2, 0);
        alert("straight on with MISS 0", slant, 1);
        slant.place(3, 1201, 1600, 0);
        alert("not straight on with MISS 0", slant, 0);
    }

    private static void alertInHeight() {
        alert("at HIGH", two(0, 0, 250, 0, 0, 9), 1);
        alert("at HIGH below", two(0, 0, -250, 0, 0, 0), 1);
        alert("above HIGH", two(0, 0, 251, 0, 0, 0), 0);
        alert("below HIGH", two(0, 0, -251, 0, 0, 0), 0);
        alert("sinking in time", two(0, 0, 270, 0, 0, -9), 1);
        alert("sinking too late", two(0, 0, 271, 0, 0, -9), 0);
        alert("climbing away", two(0, 0, 270, 0, 0, 9), 0);
        alert("climbing in time", two(0, 0, -270, 0, 0, 9), 1);
        alert("sinking away", two(0, 0, -270, 0, 0, -9), 0);
        SkyAdvisor sky = two(0, 0, 270, 0, 0, -9);
        sky.set(0, 29);
        alert("with less TIME", sky, 0);
        sky.set(3, 270);
        alert("with more HIGH", sky, 1);
        sky.speed(3, 0, 0, 0);
        sky.set(3, 0);
        sky.place(3, 0, 0, 0);
        alert("at the same height with HIGH 0", sky, 1);
    }

    /** Whoever counts in int finds these two near, or on their way to be. */
    private static void alertWithLargeNumbers() {
        SkyAdvisor sky = two(0, 0, 0, 0, 0, 0);
        sky.place(1, -200000, -200000, 0);
        sky.place(3, 200000, 200000, 0);
        sky.speed(1, 500, 500, 0);
        sky.speed(3, -500, -500, 0);
        Due.settle(sky, 100, 5000, 5000, 2000, 200, 5, 8);
        alert("far off", sky, 0);
        Due.same("time left far off", sky.pair(1, 3, 1), 100);
        Due.same("least distance far off", sky.pair(1, 3, 9), 2147483647);
        sky.place(1, -65536, 0, 0);
        sky.place(3, 65536, 0, 0);
        sky.speed(1, 0, 0, 0);
        sky.speed(3, 0, 0, 0);
        alert("at a distance whose square wraps to 0", sky, 0);
        Due.same("least distance", sky.pair(1, 3, 9), 2147483647);
    }

    private static void timeLeft() {
        int[][] cases = {
            {1000, 0, -300, 0, 3}, {900, 0, -300, 0, 3}, {899, 0, -300, 0, 2}, {299, 0, -300, 0, 0},
            {9000, 0, -300, 0, 30}, {9300, 0, -300, 0, 30}, {8999, 0, -300, 0, 29},
            {1000, 0, 300, 0, 0}, {1000, 0, 0, 300, 0}, {1000, 0, 0, 0, 0},
            {700, 500, -100, -200, 3}, {-3000, 50, 100, 3, 29},
        };
        for (int[] row : cases) {
            SkyAdvisor sky = two(row[0], row[1], 0, row[2], row[3], 0);
            Due.same("time left", sky.pair(1, 3, 1), row[4]);
            Due.same("time left, the other way", sky.pair(3, 1, 1), row[4]);
        }
        SkyAdvisor sky = two(9000, 0, 0, -300, 0, 0);
        sky.set(0, 20);
        Due.same("time left with less TIME", sky.pair(1, 3, 1), 20);
        sky.set(0, 100);
        Due.same("time left with more TIME", sky.pair(1, 3, 1), 30);
    }

    private static void chosen(String what, SkyAdvisor sky, int part, int sense) {
        Due.same("part, " + what, sky.pair(1, 3, 7), part);
        Due.same("part, the other way, " + what, sky.pair(3, 1, 7), part);
        Due.same("sense, " + what, sky.pair(1, 3, 8), sense);
        Due.same("sense, the other way, " + what, sky.pair(3, 1, 8), 3 - sense);
    }

    /** Ten seconds are left, five of them before anything is heeded. */
    private static void senseChosen() {
        SkyAdvisor sky = two(1000, 0, 100, -100, 0, 0);
        chosen("DOWN is enough at 1, UP at 3", sky, 220, 2);
        sky.set(4, 221);
        chosen("DOWN is enough at 2, UP at 3", sky, 340, 2);
        sky.set(4, 2000);
        chosen("neither is enough", sky, 580, 2);
        sky.set(4, 0);
        chosen("both are enough at 1", sky, 220, 2);
        sky.set(4, 200);
        sky.set(5, 20);
        chosen("nothing is heeded in time", sky, 100, 2);
        sky.set(5, 0);
        chosen("all is heeded", sky, 340, 2);
        sky.speed(1, 0, 0, 60);
        sky.speed(3, -100, 0, -60);
        chosen("steeper than the advice", sky, 1100, 1);
        lessEnoughBeatsMoreParting();
    }

    /** At strength 1 UP parts by 202 and DOWN by 198, at strength 2 DOWN by 318. */
    private static void lessEnoughBeatsMoreParting() {
        SkyAdvisor sky = two(500, 0, 78, -100, 0, 0);
        sky.set(5, 0);
        sky.speed(1, 0, 0, 44);
        sky.set(4, 199);
        chosen("UP is enough at 1, DOWN at 2", sky, 202, 1);
        sky.set(4, 198);
        chosen("both are enough at 1 and UP parts by more", sky, 202, 1);
        sky.set(4, 203);
        chosen("UP is enough at 2, and so is DOWN, which parts by more", sky, 318, 2);
    }

    private static void senseChosenByHeight() {
        chosen("same height", two(0, 0, 0, 0, 0, 0), 0, 1);
        SkyAdvisor above = two(1000, 0, -100, -100, 0, 0);
        above.set(5, 20);
        above.speed(1, 0, 0, -10);
        chosen("same height in the end, the first is above", above, 0, 1);
        SkyAdvisor below = two(1000, 0, 100, -100, 0, 0);
        below.set(5, 20);
        below.speed(1, 0, 0, 10);
        chosen("same height in the end, the first is below", below, 0, 2);
    }

    private static void advice() {
        SkyAdvisor sky = two(3100, 0, 100, -100, 0, 0);
        sky.follow(1, false);
        sky.follow(3, false);
        Due.same("advice before", Due.adviceOf(sky, 1, 3), "0 0 0 0 0");
        sky.step(1);
        Due.same("advice that begins", Due.adviceOf(sky, 1, 3), "2 1 0 0 700");
        Due.same("advice that begins, the other way", Due.adviceOf(sky, 3, 1), "1 1 0 0 700");
        sky.step(2);
        Due.same("advice that has stood 2", Due.adviceOf(sky, 1, 3), "2 1 2 0 700");
        sky.step(3);
        Due.same("advice that has stood DELAY", Due.adviceOf(sky, 1, 3), "2 1 5 0 700");
        sky.step(1);
        Due.same("advice that has stood more", Due.adviceOf(sky, 1, 3), "2 1 6 0 676");
        sky.step(20);
        Due.same("advice at 4 seconds", Due.adviceOf(sky, 1, 3), "2 2 26 0 292");
        Due.same("all", Due.allOf(sky), "1 0 1 0 27");
        sky.set(4, 0);
        sky.step(1);
        Due.same("advice grows no weaker", Due.adviceOf(sky, 1, 3), "2 2 27 0 244");
        sky.set(4, 2000);
        sky.step(1);
        Due.same("advice grows by two at once", Due.adviceOf(sky, 1, 3), "2 4 28 0 292");
        Due.same("which is counted once", Due.allOf(sky), "1 0 2 0 29");
    }

    private static void least() {
        SkyAdvisor sky = two(40, 30, -50, -10, 0, 30);
        sky.follow(1, false);
        sky.follow(3, false);
        Due.same("least distance at first", sky.pair(1, 3, 9), 2500);
        Due.same("least height at first", sky.pair(3, 1, 10), 50);
        sky.step(1);
        Due.same("least distance", sky.pair(3, 1, 9), 1800);
        Due.same("least height", sky.pair(1, 3, 10), 20);
        sky.step(1);
        Due.same("least height is the one before", sky.pair(1, 3, 10), 10);
        sky.step(5);
        Due.same("least distance is passed", sky.pair(1, 3, 9), 900);
        Due.same("least height is passed", sky.pair(1, 3, 10), 10);
        sky.place(5, 0, 0, 0);
        Due.same("least distance when another comes", sky.pair(1, 3, 9), 900);
        sky.place(1, 0, 0, 0);
        Due.same("least distance since 1 was placed", sky.pair(1, 3, 9), 1800);
        Due.same("least height since 1 was placed", sky.pair(1, 3, 10), 160);
        sky.place(3, 46340, 200, 7);
        Due.same("least distance since 3 was placed", sky.pair(3, 1, 9), 2147435600);
        Due.same("least height since 3 was placed", sky.pair(3, 1, 10), 7);
        sky.place(3, 46341, 0, 7);
        Due.same("least distance that is cut", sky.pair(1, 3, 9), 2147483647);
    }
}
