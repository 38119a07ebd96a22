/** Terms, "a second", 3.: advice is turned, each of the four conditions at its bound. */
public final class TurnTest {
    public static void main(String[] args) {
        turns();
        staysWhenItPartsByNothing();
        staysWhenTheOtherPartsByLessThanWanted();
        staysWhenTimeIsNotAboveDelay();
        turnsWhenTimeIsJustAboveDelay();
        looksAtItsOwnSenseAsItHasStood();
        looksAtTheOtherSenseAsNew();
        turnsOnceOnly();
        startsAgainFromTheLeastStrength();
        endsWithoutAMarkOfTheTurn();
        mayTurnWhenItBeginsAnew();
        Due.end();
    }

    /**
     * Two that do not follow and cross in height: UP is chosen, for it parts by more in the end;
     * then TIME is cut to one more than DELAY, and they have not crossed by then.
     */
    static SkyAdvisor crossing(int wanted, int delay, int climb, int height) {
        SkyAdvisor sky = Scenes.withSettings(100, 1000, 2000, 2000, wanted, delay, 8);
        sky.place(0, 0, 0, 0);
        sky.place(1, 2000, 0, height);
        sky.speed(0, 100, 0, climb);
        sky.speed(1, 0, 0, -climb);
        sky.follow(0, false);
        sky.follow(1, false);
        Due.same("step(1)", sky.step(1), 1);
        Due.same("advice at first", Due.adviceOf(sky, 0, 1), "1 1 0 0 " + (40 * climb - height));
        sky.set(0, delay + 1);
        return sky;
    }

    private static void behindASecond(String what, SkyAdvisor sky, String advice, String all) {
        Due.same("step(1)", sky.step(1), 1);
        Due.same("advice, " + what, Due.adviceOf(sky, 0, 1), advice);
        Due.same("all, " + what, Due.allOf(sky), all);
    }

    private static void turns() {
        SkyAdvisor sky = crossing(197, 0, 50, 301);
        behindASecond("it parts by -1, the other by WANTED", sky, "2 4 0 1 197", "1 1 0 0 2");
        Due.same("advice turned, in the other order", Due.adviceOf(sky, 1, 0), "1 4 0 1 197");
    }

    private static void staysWhenItPartsByNothing() {
        behindASecond("it parts by 0", crossing(1, 0, 50, 300), "1 4 1 0 0", "1 0 1 0 2");
    }

    private static void staysWhenTheOtherPartsByLessThanWanted() {
        behindASecond("the other parts by 197", crossing(198, 0, 50, 301), "1 4 1 0 -1", "1 0 1 0 2");
    }

    private static void staysWhenTimeIsNotAboveDelay() {
        SkyAdvisor sky = crossing(1, 0, 50, 301);
        sky.set(5, 1);
        behindASecond("TIME 1, DELAY 1", sky, "1 4 1 0 -1", "1 0 1 0 2");
        SkyAdvisor less = crossing(1, 0, 50, 301);
        less.set(5, 2);
        behindASecond("TIME 1, DELAY 2", less, "1 4 1 0 -1", "1 0 1 0 2");
    }

    private static void turnsWhenTimeIsJustAboveDelay() {
        behindASecond("TIME 2, DELAY 1", crossing(197, 1, 50, 401), "2 4 0 1 197", "1 1 0 0 2");
    }

    /** Two seconds by 48, as DELAY is over: 0 and -1. With a second of 40 it would be -16. */
    private static void looksAtItsOwnSenseAsItHasStood() {
        behindASecond("it parts by 0", crossing(200, 1, 40, 352), "1 4 1 0 0", "1 0 1 0 2");
        behindASecond("it parts by -1", crossing(200, 1, 40, 353), "2 4 0 1 209", "1 1 0 0 2");
    }

    /** A second of DELAY, then a second by 48: 197. With two seconds by 48 it would be 393. */
    private static void looksAtTheOtherSenseAsNew() {
        behindASecond("the other parts by 197", crossing(198, 1, 50, 401), "1 4 1 0 -1", "1 0 1 0 2");
    }

    private static void turnsOnceOnly() {
        SkyAdvisor sky = crossing(197, 0, 50, 301);
        behindASecond("turned", sky, "2 4 0 1 197", "1 1 0 0 2");
        behindASecond("a second later", sky, "2 4 1 1 97", "1 1 0 0 3");
        behindASecond("not turned back", sky, "2 4 2 1 -3", "1 1 0 0 4");
        Due.same("by the other sense they would part", sky.pair(0, 1, 7), 199);
    }

    private static void startsAgainFromTheLeastStrength() {
        behindASecond("WANTED 125", crossing(125, 0, 50, 301), "2 1 0 1 125", "1 1 0 0 2");
        behindASecond("WANTED 126", crossing(126, 0, 50, 301), "2 2 0 1 149", "1 1 0 0 2");
        behindASecond("WANTED 149", crossing(149, 0, 50, 301), "2 2 0 1 149", "1 1 0 0 2");
        behindASecond("WANTED 150", crossing(150, 0, 50, 301), "2 3 0 1 173", "1 1 0 0 2");
        SkyAdvisor grown = crossing(224, 0, 50, 500);
        grown.set(4, 2000);
        behindASecond("grown to 4", grown, "1 4 1 0 -200", "1 0 1 0 2");
        grown.set(4, 224);
        behindASecond("turned when it was 4", grown, "2 1 0 1 224", "1 1 1 0 3");
    }

    /** They pass each other, and the advice ends beyond HIGH. */
    private static void endsWithoutAMarkOfTheTurn() {
        SkyAdvisor sky = crossing(197, 0, 50, 301);
        sky.step(1);
        Due.same("turned", sky.pair(0, 1, 5), 1);
        Due.same("step(30)", sky.step(30), 0);
        Due.same("turned, without advice", sky.pair(0, 1, 5), 0);
        Due.same("all", Due.allOf(sky), "1 1 0 1 32");
    }

    private static void mayTurnWhenItBeginsAnew() {
        SkyAdvisor sky = crossing(197, 0, 50, 301);
        sky.step(1);
        Due.same("turned", sky.pair(0, 1, 5), 1);
        sky.speed(0, 100, 0, 50);
        Due.same("turned, without advice", sky.pair(0, 1, 5), 0);
        sky.set(0, 100);
        sky.place(0, 0, 0, 0);
        sky.place(1, 2000, 0, 301);
        sky.step(1);
        Due.same("advice anew", Due.adviceOf(sky, 0, 1), "1 1 0 0 1699");
        sky.set(0, 1);
        behindASecond("turned anew", sky, "2 4 0 1 197", "2 2 0 0 4");
    }
}
