/** What the tests share: the findings, a count of wrong answers, and texts fed to the tape. */
final class Check {
    static final int BEYOND = -1000000001;
    static final int FULL = -1000000002;
    static final int KIND = -1000000003;
    static final int NONE = -1000000004;
    static final int STATE = -1000000005;
    static final int MISSING = -1000000006;
    static final int SIZE = -1000000007;

    private static String topic = "";
    private static int asked = 0;
    private static int wrong = 0;

    private Check() {
    }

    /** Told ahead of each wrong answer from here on. */
    static void about(String newTopic) {
        topic = newTopic + ": ";
    }

    static void due(String call, long got, long want) {
        asked++;
        if (got != want) {
            wrong++;
            System.out.println(topic + call + " answered " + got + ", due is " + want);
        }
    }

    static void holds(String what, boolean is) {
        due(what, is ? 1 : 0, 1);
    }

    static void end() {
        System.out.println(asked + " answers asked, " + wrong + " wrong");
        if (wrong != 0 || asked == 0) {
            System.exit(1);
        }
    }

    /** By fours, as an object is good for 512 calls only. */
    static void feed(SixFellows x, String text) {
        for (int i = 0; i < text.length(); i += 4) {
            int n = Math.min(4, text.length() - i);
            int word = 0;
            for (int k = i; k < i + n; k++) {
                word = word << 8 | text.charAt(k);
            }
            x.feed(word, n);
        }
    }

    static int tell(SixFellows x, String text) {
        feed(x, text);
        return x.road();
    }

    /** A new object with the road of a text. */
    static SixFellows road(String text) {
        SixFellows x = new SixFellows();
        for (String item : text.split(";")) {
            holds("the item '" + item + "' is taken", tell(x, item) == 1);
        }
        return x;
    }
}
