/** Objects for the tests to begin with; each call makes a new one, always the same. */
final class Worlds {
    /** How many STEPS the setting up of a rich one takes. */
    private static final int SET_UP = 13;

    private Worlds() {
    }

    /** Feeds a text with few calls. */
    static void feed(PocketHole x, String text) {
        for (int i = 0; i < text.length(); i += 4) {
            int n = Math.min(4, text.length() - i);
            int bytes = 0;
            for (int k = 0; k < n; k++) {
                bytes = bytes << 8 | text.charAt(i + k);
            }
            x.feed(bytes, n);
        }
    }

    static PocketHole of(String text) {
        PocketHole x = new PocketHole();
        feed(x, text);
        x.text();
        return x;
    }

    /**
     * Coins in all places: 3 and 5 in the POCKET, where they stay, 1 in the LINING, 0 and 2 on the
     * GROUND, where they came at STEP 10, 4 in LEFT, 6 PAID. An image of another state, findings,
     * spots, sheets (0 to 2; 3 is MISSING) and a tape.
     */
    static PocketHole rich() {
        return rich(SET_UP);
    }

    /** The same with a STEP from 13 on. */
    static PocketHole rich(int step) {
        PocketHole x = bare(step - SET_UP);
        feed(x, "coin pence 1;heavy size 9 pence 2;coin pence 4;key size 40 pence 8;gap 8 at 7");
        x.text();
        feed(x, "ticket pence 16 left;wrapped size 30 pence 32;coin pence 64");
        x.text();
        x.put(6, 4);
        x.steps(11);
        x.seed(77);
        x.hold(2, 1);
        x.image();
        x.steps(2);
        x.rule(1, 9);
        x.change(1, 2, 33);
        x.hold(5, 0);
        x.hold(9, 4);
        x.seed(-78);
        sheets(x);
        feed(x, "key");
        x.coin(7);
        x.pay(1);
        return x;
    }

    private static void sheets(PocketHole x) {
        x.sheet(0, 8, 3);
        x.sheet(1, 16, 2);
        x.sheet(2, 32, 1);
        for (int i = 0; i < 3; i++) {
            x.write(0, i, 5 + i);
        }
        x.write(1, 0, 8);
        x.write(1, 1, 9);
        x.write(2, 0, 10);
    }

    /** As many coins as there may be: 7, 8 and 9 lie in the POCKET, too. */
    static PocketHole full() {
        PocketHole x = rich();
        x.coin(1);
        x.coin(5);
        x.coin(3);
        return x;
    }

    static PocketHole tenOf(int kind) {
        PocketHole x = new PocketHole();
        for (int c = 0; c < 10; c++) {
            x.coin(kind);
        }
        return x;
    }

    /** Nothing is there, but STEP is as told. */
    static PocketHole bare(int step) {
        PocketHole x = new PocketHole();
        for (int left = step; left > 0; left -= 100) {
            x.steps(Math.min(left, 100));
        }
        return x;
    }
}
