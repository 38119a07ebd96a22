/** What the tests share: due answers, due refusals, and all that can be asked of an object. */
final class Due {
    interface Scene {
        SkyAdvisor make();
    }

    interface Call {
        void on(SkyAdvisor sky);
    }

    /** Numbers that no range of the document holds. */
    static final int[] FAR_OFF = {Integer.MIN_VALUE, Integer.MIN_VALUE + 1, -1000000, 1000000, Integer.MAX_VALUE};

    /** A refused call may leave a mark that shows only when time goes on. */
    private static final int[] SECONDS_LATER = {0, 1, 2, 20};
    private static final int[] ALLOWED = {30, 1000, 2000, 250, 200, 5, 8};
    private static int wrong = 0;

    private Due() {
    }

    static void same(String what, long got, long want) {
        if (got != want) {
            complain(what + " answered " + got + ", due is " + want);
        }
    }

    static void same(String what, String got, String want) {
        if (!got.equals(want)) {
            complain(what + " answered\n  " + got + ", due is\n  " + want);
        }
    }

    /**
     * The call throws IllegalArgumentException itself, no class below it, and changes nothing:
     * behind it the object answers all that its twin answers, which never got the call.
     */
    static void refused(String what, Scene scene, Call call) {
        for (int later : SECONDS_LATER) {
            SkyAdvisor sky = scene.make();
            SkyAdvisor twin = scene.make();
            same(what + " throws", thrownBy(sky, call), "java.lang.IllegalArgumentException");
            if (later > 0) {
                same("step behind " + what, sky.step(later), twin.step(later));
            }
            same("the state " + later + " seconds behind " + what, stateOf(sky, scene), stateOf(twin, scene));
        }
    }

    static void refusedEverywhere(String what, Call call) {
        refused(what + " (no aircraft)", SkyAdvisor::new, call);
        refused(what + " (some there)", Scenes::busy, call);
        refused(what + " (all six there)", Scenes::full, call);
    }

    private static String thrownBy(SkyAdvisor sky, Call call) {
        try {
            call.on(sky);
        } catch (Throwable e) {
            return e.getClass().getName();
        }
        return "nothing";
    }

    static String toldOf(SkyAdvisor sky, int i) {
        StringBuilder text = new StringBuilder();
        try {
            for (int what = 0; what <= 6; what++) {
                text.append(sky.told(i, what)).append(' ');
            }
        } catch (IllegalArgumentException e) {
            text.append("gone ");
        }
        return text.toString().trim();
    }

    static String pairOf(SkyAdvisor sky, int i, int j) {
        StringBuilder text = new StringBuilder();
        try {
            for (int what = 0; what <= 10; what++) {
                text.append(sky.pair(i, j, what)).append(' ');
            }
        } catch (IllegalArgumentException e) {
            text.append("none ");
        }
        return text.toString().trim();
    }

    /** Sense, strength, how long it has stood, whether it was turned, by how much they part. */
    static String adviceOf(SkyAdvisor sky, int i, int j) {
        StringBuilder text = new StringBuilder();
        for (int what = 2; what <= 6; what++) {
            text.append(sky.pair(i, j, what)).append(' ');
        }
        return text.toString().trim();
    }

    static String allOf(SkyAdvisor sky) {
        StringBuilder text = new StringBuilder();
        for (int what = 0; what <= 4; what++) {
            text.append(sky.all(what)).append(' ');
        }
        return text.toString().trim();
    }

    /** Settings can only be read by setting them; each is put back at once. */
    static String settingsOf(SkyAdvisor sky) {
        StringBuilder text = new StringBuilder();
        for (int which = 0; which < ALLOWED.length; which++) {
            int value = sky.set(which, ALLOWED[which]);
            sky.set(which, value);
            text.append(value).append(' ');
        }
        return text.toString().trim();
    }

    /**
     * All that can be asked: 391 calls at most, so that one object can be asked it once. Those
     * that are not there in the scene are asked about last: a mark that refused calls leave must
     * not be on both twins before they are compared.
     */
    static String stateOf(SkyAdvisor sky, Scene scene) {
        boolean[] there = thereIn(scene.make());
        StringBuilder text = new StringBuilder(settingsOf(sky)).append(" | ").append(allOf(sky));
        for (int i = 0; i < 6; i++) {
            for (int j = 0; j < 6; j++) {
                if (there[i] && there[j]) {
                    text.append(" | ").append(i == j ? toldOf(sky, i) : pairOf(sky, i, j));
                }
            }
        }
        for (int i = 0; i < 6; i++) {
            text.append(there[i] ? "" : " | " + toldOf(sky, i));
        }
        return text.toString();
    }

    private static boolean[] thereIn(SkyAdvisor sky) {
        boolean[] there = new boolean[6];
        for (int i = 0; i < 6; i++) {
            there[i] = !toldOf(sky, i).equals("gone");
        }
        return there;
    }

    static void end() {
        System.out.println(wrong == 0 ? "all answers are as due" : wrong + " answers are not as due");
        if (wrong != 0) {
            System.exit(1);
        }
    }

    private static void complain(String text) {
        wrong++;
        System.out.println(text);
    }
}
