/** Counts answers that are not as due; what all tests share. */
final class Check {
    static final int BEYOND = -1000001;
    static final int FULL = -1000002;
    static final int KIND = -1000003;
    static final int NONE = -1000004;
    static final int STATE = -1000005;
    static final int MISSING = -1000006;
    static final int SIZE = -1000007;

    private int asked = 0;
    private int wrong = 0;
    private String promise = "";

    void promise(int number, String name) {
        promise = "promise " + number + " (" + name + ")";
    }

    void due(String call, long got, long want) {
        asked++;
        if (got != want) {
            wrong++;
            System.out.println(promise + ": " + call + " answered " + got + ", due is " + want);
        }
    }

    void end() {
        System.out.println(asked + " answers, " + wrong + " wrong");
        if (wrong != 0) {
            System.exit(1);
        }
    }

    /** Feeds a text, byte by byte. */
    static void feed(PocketHole x, String text) {
        for (int i = 0; i < text.length(); i++) {
            x.feed(text.charAt(i), 1);
        }
    }

    /** An object whose TAPE told a text. */
    static PocketHole of(String text) {
        PocketHole x = new PocketHole();
        feed(x, text);
        x.text();
        return x;
    }

    /** Goes on until STEP is as told. */
    static void stepTo(PocketHole x, int step) {
        while (x.now(0) < step) {
            x.steps(Math.min(100, step - x.now(0)));
        }
    }
}
