/** Counts what is not as due, and tells it. */
final class Check {
    static final int NONE = -1000000, BAD = -1000001, STATE = -1000002, FULL = -1000003;
    static final int NULL = -1000011, PLACE = -1000012, KIND = -1000013, SIZE = -1000014, STORE = -1000015;

    private final String about;
    private int asked;
    private int wrong;
    private int sentences;
    private int broken;

    Check(String about) {
        this.about = about;
    }

    /** A test of its own for one sentence of the document; the words say which one. */
    void sentence(String words, Runnable test) {
        int wrongAhead = wrong;
        int askedAhead = asked;
        test.run();
        sentences++;
        if (asked == askedAhead) {
            wrong++;
            System.out.println(about + ": nothing was asked");
        }
        if (wrong > wrongAhead) {
            broken++;
            System.out.println(about + ": does not hold: " + words);
        }
    }

    void due(String call, long got, long want) {
        asked++;
        if (got != want) {
            wrong++;
            System.out.println(about + ": " + call + " answered " + got + ", due is " + want);
        }
    }

    void holds(String what, boolean so) {
        due(what, so ? 1 : 0, 1);
    }

    /** The answers are due in the order in which they are given. */
    void dueRow(String call, int[] got, int... want) {
        due(call + " (how many)", got.length, want.length);
        for (int i = 0; i < Math.min(got.length, want.length); i++) {
            due(call + " [" + i + "]", got[i], want[i]);
        }
    }

    void end() {
        System.out.println(about + ": " + asked + " answers, " + wrong + " not as due"
            + (sentences > 0 ? "; " + sentences + " sentences, " + broken + " do not hold" : ""));
        if (wrong != 0 || asked == 0) {
            System.exit(1);
        }
    }
}
