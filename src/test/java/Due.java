/**
 * What the tests share: due answers, due refusals, and all that can be asked of an object.
 * Asking for all takes some objects beyond 512 calls, where answers are free by the document;
 * this class answers there as before, and the tests rely on it.
 */
final class Due {
    interface Call {
        void make();
    }

    private static final int[] ALLOWED = {30, 1000, 2000, 250, 200, 5, 8};
    private static int wrong = 0;

    private Due() {
    }

    static void same(String what, long got, long want) {
        if (got != want) {
            complain(what + " answered " + got + ", due is " + want);
        }
    }

    static void same(String what, String got, String want) {
        if (!got.equals(want)) {
            complain(what + " answered\n  " + got + ", due is\n  " + want);
        }
    }

    /** The call throws IllegalArgumentException itself, no class below it, and changes nothing. */
    static void refused(String what, SkyAdvisor sky, Call call) {
        String before = stateOf(sky);
        String thrown = "nothing";
        try {
            call.make();
        } catch (RuntimeException e) {
            thrown = e.getClass().getName();
        }
        same(what + " throws", thrown, "java.lang.IllegalArgumentException");
        same("the state after " + what, stateOf(sky), before);
    }

    static void settle(SkyAdvisor sky, int... values) {
        for (int which = 0; which < values.length; which++) {
            sky.set(which, values[which]);
        }
    }

    static String toldOf(SkyAdvisor sky, int i) {
        StringBuilder text = new StringBuilder();
        try {
            for (int what = 0; what <= 6; what++) {
                text.append(sky.told(i, what)).append(' ');
            }
        } catch (IllegalArgumentException e) {
            text.append("gone ");
        }
        return text.toString().trim();
    }

    static String pairOf(SkyAdvisor sky, int i, int j) {
        StringBuilder text = new StringBuilder();
        try {
            for (int what = 0; what <= 10; what++) {
                text.append(sky.pair(i, j, what)).append(' ');
            }
        } catch (IllegalArgumentException e) {
            text.append("none ");
        }
        return text.toString().trim();
    }

    static String adviceOf(SkyAdvisor sky, int i, int j) {
        StringBuilder text = new StringBuilder();
        for (int what = 2; what <= 6; what++) {
            text.append(sky.pair(i, j, what)).append(' ');
        }
        return text.toString().trim();
    }

    static String allOf(SkyAdvisor sky) {
        StringBuilder text = new StringBuilder();
        for (int what = 0; what <= 4; what++) {
            text.append(sky.all(what)).append(' ');
        }
        return text.toString().trim();
    }

    static String settingsOf(SkyAdvisor sky) {
        StringBuilder text = new StringBuilder();
        for (int which = 0; which < ALLOWED.length; which++) {
            int value = sky.set(which, ALLOWED[which]);
            sky.set(which, value);
            text.append(value).append(' ');
        }
        return text.toString().trim();
    }

    static String stateOf(SkyAdvisor sky) {
        StringBuilder text = new StringBuilder(settingsOf(sky));
        for (int i = 0; i < 6; i++) {
            text.append(" | ").append(toldOf(sky, i));
            for (int j = 0; j < 6; j++) {
                text.append(" / ").append(pairOf(sky, i, j));
            }
        }
        return text.append(" | ").append(allOf(sky)).toString();
    }

    static void end() {
        System.out.println(wrong == 0 ? "all answers are as due" : wrong + " answers are not as due");
        if (wrong != 0) {
            System.exit(1);
        }
    }

    private static void complain(String text) {
        wrong++;
        System.out.println(text);
    }
}
