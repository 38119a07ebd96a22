/** Terms, "they part", "enough" and "the sense chosen", asked by promise 9. */
public final class PartTest {
    public static void main(String[] args) {
        noTimeIsLeft();
        lessTimeThanDelay();
        asMuchTimeAsDelay();
        moreTimeThanDelay();
        delayAtItsLeastAndMost();
        goingUpSteeperThanAdvised();
        goingDownSteeperThanAdvised();
        goingTheWrongWayBeforeDelay();
        enoughIsTheLeastThatDoes();
        enoughIsFourIfNoneDoes();
        wantedAtItsLeastAndMost();
        lessEnoughIsChosen();
        morePartingIsChosen();
        bothAreLookedAtAsNewAdvice();
        noStrengthBelowOneIsLookedAt();
        theHigherOneGoesUpIfAllIsTheSame();
        heightsBeyondTheirBounds();
        Due.end();
    }

    private static void chosen(String what, SkyAdvisor sky, int part, int sense) {
        Due.same("part, " + what, sky.pair(1, 3, 7), part);
        Due.same("part, in the other order, " + what, sky.pair(3, 1, 7), part);
        Due.same("sense, " + what, sky.pair(1, 3, 8), sense);
        Due.same("sense, in the other order, " + what, sky.pair(3, 1, 8), 3 - sense);
    }

    /** Ten seconds are left; aircraft 3 is 100 above, so that they part by 100 and 24 s b. */
    private static SkyAdvisor tenSeconds(int wanted, int delay) {
        SkyAdvisor sky = Scenes.two(1000, 0, 100, -100, 0, 0);
        sky.set(4, wanted);
        sky.set(5, delay);
        return sky;
    }

    private static void noTimeIsLeft() {
        chosen("at rest", Scenes.two(0, 0, 70, 0, 0, 0), 70, 2);
        chosen("at rest, the other above", Scenes.two(0, 0, -70, 0, 0, 0), 70, 1);
        chosen("parting, climbing", Scenes.two(100, 0, 70, 100, 0, 60), 70, 2);
        chosen("less than a second", Scenes.two(99, 0, 70, -100, 0, -60), 70, 2);
    }

    private static void lessTimeThanDelay() {
        chosen("10 seconds, DELAY 11", tenSeconds(200, 11), 100, 2);
    }

    private static void asMuchTimeAsDelay() {
        chosen("10 seconds, DELAY 10", tenSeconds(200, 10), 100, 2);
    }

    private static void moreTimeThanDelay() {
        chosen("10 seconds, DELAY 9", tenSeconds(200, 9), 196, 2);
        chosen("10 seconds, DELAY 5", tenSeconds(200, 5), 220, 2);
    }

    private static void delayAtItsLeastAndMost() {
        chosen("10 seconds, DELAY 0", tenSeconds(200, 0), 340, 2);
        chosen("10 seconds, DELAY 20", tenSeconds(200, 20), 100, 2);
        SkyAdvisor sky = Scenes.two(2100, 0, 100, -100, 0, 0);
        sky.set(5, 20);
        chosen("21 seconds, DELAY 20", sky, 196, 2);
    }

    /** Ten seconds are left, aircraft 1 is 400 above: UP parts by 400 and 10 times the two speeds. */
    private static SkyAdvisor steep(int wanted, int vzOf1, int vzOf3) {
        SkyAdvisor sky = Scenes.two(1000, 0, -400, -100, 0, vzOf3);
        sky.set(4, wanted);
        sky.set(5, 0);
        sky.speed(1, 0, 0, vzOf1);
        return sky;
    }

    private static void goingUpSteeperThanAdvised() {
        chosen("less than 12", steep(200, 11, 0), 640, 1);
        chosen("12", steep(200, 12, 0), 640, 1);
        chosen("more than 12", steep(200, 13, 0), 650, 1);
        chosen("far less than 12", steep(200, -60, 0), 640, 1);
        chosen("less than 48", steep(2000, 47, 0), 1360, 1);
        chosen("48", steep(2000, 48, 0), 1360, 1);
        chosen("more than 48", steep(2000, 49, 0), 1370, 1);
        chosen("60", steep(2000, 60, 0), 1480, 1);
    }

    private static void goingDownSteeperThanAdvised() {
        chosen("less than 12 down", steep(200, 0, -11), 640, 1);
        chosen("12 down", steep(200, 0, -12), 640, 1);
        chosen("more than 12 down", steep(200, 0, -13), 650, 1);
        chosen("far less than 12 down", steep(200, 0, 60), 640, 1);
        chosen("less than 48 down", steep(2000, 0, -47), 1360, 1);
        chosen("48 down", steep(2000, 0, -48), 1360, 1);
        chosen("more than 48 down", steep(2000, 0, -49), 1370, 1);
        chosen("60 down", steep(2000, 0, -60), 1480, 1);
    }

    /** For 4 seconds both go by their own speed, for 6 by that which is advised. */
    private static void goingTheWrongWayBeforeDelay() {
        SkyAdvisor sky = steep(200, -10, 10);
        sky.set(5, 4);
        chosen("the wrong way", sky, 464, 1);
        sky.speed(1, 0, 0, 10);
        chosen("one the right way", sky, 544, 1);
        sky.speed(3, -100, 0, -10);
        chosen("both the right way", sky, 624, 1);
    }

    /** By 5 seconds of it DOWN parts by 220, 340, 460 and 580. */
    private static void enoughIsTheLeastThatDoes() {
        int[][] rows = {
            {219, 220}, {220, 220}, {221, 340}, {340, 340}, {341, 460}, {460, 460}, {461, 580}, {580, 580},
        };
        for (int[] row : rows) {
            chosen("WANTED " + row[0], tenSeconds(row[0], 5), row[1], 2);
        }
    }

    private static void enoughIsFourIfNoneDoes() {
        chosen("WANTED 581", tenSeconds(581, 5), 580, 2);
        chosen("WANTED 581, no time", tenSeconds(581, 20), 100, 2);
        SkyAdvisor sky = tenSeconds(581, 5);
        sky.place(3, 1100, 0, 100);
        sky.step(1);
        Due.same("advice of strength 4", Due.adviceOf(sky, 1, 3), "2 4 0 0 580");
    }

    /** With WANTED 0 parting by 0 is enough, and by less it is not. */
    private static void wantedAtItsLeastAndMost() {
        chosen("WANTED 0, the same height", Scenes.addTwo(Scenes.withSettings(30, 1000, 2000, 250, 0), 0, 0, 0, 0, 0, 0), 0, 1);
        SkyAdvisor one = Scenes.addTwo(Scenes.withSettings(30, 1000, 2000, 250, 0), 0, 0, 1, 0, 0, 0);
        chosen("WANTED 0, one above", one, 1, 2);
        one.step(1);
        Due.same("strength", one.pair(1, 3, 3), 1);
        SkyAdvisor most = Scenes.addTwo(Scenes.withSettings(30, 1000, 2000, 2000, 2000), 0, 0, 2000, 0, 0, 0);
        most.step(1);
        Due.same("WANTED 2000, 2000 above", Due.adviceOf(most, 1, 3), "2 1 0 0 2000");
        SkyAdvisor less = Scenes.addTwo(Scenes.withSettings(30, 1000, 2000, 2000, 2000), 0, 0, 1999, 0, 0, 0);
        less.step(1);
        Due.same("WANTED 2000, 1999 above", Due.adviceOf(less, 1, 3), "2 4 0 0 1999");
    }

    /** At strength 1 UP parts by 202 and DOWN by 198, at strength 2 DOWN by 318. */
    private static SkyAdvisor climbing(int wanted) {
        SkyAdvisor sky = Scenes.two(500, 0, 78, -100, 0, 0);
        sky.set(4, wanted);
        sky.set(5, 0);
        sky.speed(1, 0, 0, 44);
        return sky;
    }

    /** The same upside down. */
    private static SkyAdvisor sinking(int wanted) {
        SkyAdvisor sky = Scenes.two(500, 0, -78, -100, 0, 0);
        sky.set(4, wanted);
        sky.set(5, 0);
        sky.speed(1, 0, 0, -44);
        return sky;
    }

    private static void lessEnoughIsChosen() {
        chosen("UP is enough at 1, DOWN at 2", climbing(199), 202, 1);
        chosen("UP is enough at 1, DOWN at 2, where it parts by more", climbing(202), 202, 1);
        chosen("DOWN is enough at 1, UP at 3, where it parts by more", tenSeconds(220, 5), 220, 2);
        chosen("DOWN is enough at 1, UP at 2", sinking(199), 202, 2);
        chosen("DOWN is enough at 1, UP at 2, where it parts by more", sinking(202), 202, 2);
    }

    private static void morePartingIsChosen() {
        chosen("both are enough at 1, UP parts by more", climbing(198), 202, 1);
        chosen("both are enough at 2, DOWN parts by more", climbing(203), 318, 2);
        chosen("both are enough at 1, DOWN parts by more", sinking(198), 202, 2);
        chosen("both are enough at 2, UP parts by more", sinking(203), 318, 1);
        chosen("neither is enough, DOWN parts by more", tenSeconds(2000, 5), 580, 2);
    }

    /** One apart, for 5 of 10 seconds: one sense parts by 121 and 241, the other by 119 and 239. */
    private static void bothAreLookedAtAsNewAdvice() {
        int[][] rows = {{119, 121}, {120, 121}, {121, 121}, {122, 241}, {239, 241}, {241, 241}, {242, 361}};
        for (int[] row : rows) {
            SkyAdvisor below = tenSeconds(row[0], 5);
            below.place(3, 1000, 0, 1);
            chosen("the first is one below, WANTED " + row[0], below, row[1], 2);
            SkyAdvisor above = tenSeconds(row[0], 5);
            above.place(3, 1000, 0, -1);
            chosen("the first is one above, WANTED " + row[0], above, row[1], 1);
        }
    }

    /** Both have a speed by which they would part by WANTED with no advice at all. */
    private static void noStrengthBelowOneIsLookedAt() {
        SkyAdvisor up = tenSeconds(0, 0);
        up.speed(1, 0, 0, 10);
        chosen("UP would be enough at 0", up, 340, 2);
        SkyAdvisor down = tenSeconds(0, 0);
        down.place(3, 1000, 0, -100);
        down.speed(1, 0, 0, -10);
        chosen("DOWN would be enough at 0", down, 340, 1);
    }

    /** Nothing is heeded in time, and both are at the same height in the end. */
    private static void theHigherOneGoesUpIfAllIsTheSame() {
        chosen("the same height", Scenes.two(0, 0, 0, 0, 0, 0), 0, 1);
        SkyAdvisor above = tenSeconds(200, 20);
        above.place(3, 1000, 0, -100);
        above.speed(1, 0, 0, -10);
        chosen("the first is above", above, 0, 1);
        SkyAdvisor below = tenSeconds(200, 20);
        below.speed(1, 0, 0, 10);
        chosen("the first is below", below, 0, 2);
        SkyAdvisor barely = tenSeconds(200, 20);
        barely.place(3, 1000, 0, 10);
        barely.speed(1, 0, 0, 1);
        chosen("the first is barely below", barely, 0, 2);
    }

    /** Places stop at their bounds, the heights that parting tells of do not. */
    private static void heightsBeyondTheirBounds() {
        SkyAdvisor sky = Scenes.withSettings(100, 5000, 5000, 2000, 200, 0, 60);
        sky.place(1, 0, 0, 20000);
        sky.place(3, 100000, 0, -20000);
        sky.speed(1, 500, 0, 60);
        sky.speed(3, -500, 0, -60);
        chosen("from bound to bound", sky, 52000, 1);
        sky.speed(1, 500, 0, -60);
        sky.speed(3, -500, 0, 60);
        chosen("towards each other", sky, 42400, 1);
    }
}
