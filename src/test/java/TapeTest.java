/** Promises 37 to 39. */
final class TapeTest {
    private static final Check check = new Check();

    public static void main(String[] args) {
        feed();
        wipe();
        items();
        parts();
        faults();
        numbers();
        manyCoins();
        nothingChanges();
        check.end();
    }

    private static void feed() {
        check.promise(37, "feed");
        PocketHole x = new PocketHole();
        check.due("n 0", x.feed('k', 0), Check.BEYOND);
        check.due("n 5", x.feed('k', 5), Check.BEYOND);
        check.due("n -1", x.feed('k', -1), Check.BEYOND);
        check.due("highest first", x.feed('k' << 16 | 'e' << 8 | 'y', 3), 3);
        check.due("lowest bytes", x.feed(0x6b656b00 | ';', 1), 4);
        check.due("all four", x.feed('h' << 24 | 'o' << 16 | 'l' << 8 | 'e', 4), 8);
        check.due("two", x.feed('4' << 8 | '2', 2), 10);
        check.due("text", x.text(), 2);
        check.due("HOLE", x.now(1), 42);
        check.due("KEY", x.of(0, 0), 4);
        for (int i = 1; i <= 29; i++) {
            check.due("feed 4", x.feed(0x20202020, 4), 4 * i);
        }
        check.due("118", x.feed(0x2020, 2), 118);
        check.due("121 are too many", x.feed(0x202020, 3), Check.FULL);
        check.due("BEYOND is asked first", x.feed(0, 5), Check.BEYOND);
        check.due("120", x.feed(0x2020, 2), 120);
        check.due("121 are too many", x.feed(0x20, 1), Check.FULL);
        check.due("count 5", x.count(5), 120);
        check.due("a FAULT behind all", x.text(), -121);
        check.due("it is empty", x.feed(0x20, 1), 1);
        x = new PocketHole();
        x.feed(-1, 1);
        check.due("a byte of 255 begins no token", x.text(), -1);
    }

    private static void wipe() {
        check.promise(38, "wipe");
        PocketHole x = new PocketHole();
        Check.feed(x, "key; k");
        check.due("wipe", x.wipe(), 6);
        check.due("wipe again", x.wipe(), 0);
        Check.feed(x, "hole 3");
        check.due("nothing is left of it", x.text(), 1);
        check.due("no coin", x.count(1), 0);
    }

    private static int text(PocketHole x, String text) {
        Check.feed(x, text);
        int answer = x.text();
        check.due("THE TAPE is empty behind " + text, x.count(5), 0);
        return answer;
    }

    private static void items() {
        check.promise(39, "text, items");
        String[] kinds = {"coin", "wrapped", "heavy", "knotted", "key", "flat", "ticket"};
        PocketHole x = new PocketHole();
        for (int kind = 0; kind < 7; kind++) {
            check.due(kinds[kind], text(x, kinds[kind]), 1);
            int[] first = {kind, 8, 5, 6, 0, 0, 0, -1};
            for (int what = 0; what < first.length; what++) {
                check.due("of " + what, x.of(kind, what), first[what]);
            }
        }
        check.due("hole", text(x, "hole 0"), 1);
        check.due("HOLE", x.now(1), 0);
        check.due("hole", text(x, "hole99"), 1);
        check.due("HOLE", x.now(1), 99);
        check.due("gap", text(x, "gap 99 at 0"), 1);
        check.due("GAP", x.now(2), 99);
        check.due("AT", x.now(3), 0);
        check.due("gap", text(x, "gap0at7"), 1);
        check.due("GAP", x.now(2), 0);
        check.due("AT", x.now(3), 7);
        check.due("item by item", text(x, "hole 5;hole 6 ; coin left;  gap 1 at 2;gap 3 at 4"), 5);
        check.due("the later one", x.now(1), 6);
        check.due("the later one", x.now(2), 3);
        check.due("the later one", x.now(3), 4);
        check.due("LEFT", x.lie(3), 128);
        check.due("no findings", x.status(-1), 0);
    }

    private static void parts() {
        check.promise(39, "text, parts of a coin");
        PocketHole x = new PocketHole();
        part(x, "coin size 40 weight 50 pence 240 left", 40, 50, 240, 3);
        part(x, "coin size 1 weight 1 pence 0", 1, 1, 0, 0);
        part(x, "  coin   size9weight3pence2left  ", 9, 3, 2, 3);
        part(x, "coin weight 7 left", 8, 7, 6, 3);
        part(x, "coin size 3 pence 1", 3, 5, 1, 0);
        part(x, "coin pence 007", 8, 5, 7, 0);
        part(x, "coin left", 8, 5, 6, 3);
    }

    private static void part(PocketHole x, String text, int... due) {
        check.due(text, text(x, text), 1);
        int coin = x.count(1) - 1;
        for (int i = 0; i < 4; i++) {
            check.due(text + ", of " + (i + 1), x.of(coin, i + 1), due[i]);
        }
    }

    private static void fault(String text, int place) {
        PocketHole x = new PocketHole();
        check.due("text " + text, text(x, text), -1 - place);
        check.due("no finding", x.status(-1), 0);
        check.due("nothing changed", x.count(1), 0);
        check.due("nothing changed", x.now(1), 10);
        check.due("nothing changed", x.now(2), 0);
        check.due("nothing changed", x.now(3), 7);
    }

    private static void faults() {
        check.promise(39, "text, FAULTS");
        fault("", 0);
        fault("   ", 3);
        fault(";", 0);
        fault("key;", 4);
        fault("key; ", 5);
        fault("key;;key", 4);
        fault("key key", 4);
        fault("penny", 0);
        fault("coins", 0);
        fault("keys", 0);
        fault("coi", 0);
        fault("join", 0);
        fault("pole 3", 0);
        fault("map 3 at 4", 0);
        fault("gap 3 it 4", 6);
        fault("coin sizes 4", 5);
        fault("Coin", 0);
        fault("coin\tleft", 4);
        fault("coin, coin", 4);
        fault("coin\n", 4);
        fault("coin 5", 5);
        fault("7", 0);
        fault("coin size", 9);
        fault("coin size ", 10);
        fault("coin size left", 10);
        fault("coin size ;", 10);
        fault("coin size 3 size 4", 12);
        fault("coin pence 3 size 4", 13);
        fault("coin weight 3 size 4", 14);
        fault("coin pence 3 weight 4", 13);
        fault("coin left left", 10);
        fault("coin left size 3", 10);
        fault("coinsize 3", 0);
        fault("size 3", 0);
        fault("left", 0);
        fault("hole", 4);
        fault("hole ;", 5);
        fault("hole 3 4", 7);
        fault("hole 3 left", 7);
        fault("hole left", 5);
        fault("hole 3;", 7);
        fault("gap", 3);
        fault("gap at 3", 4);
        fault("gap 3", 5);
        fault("gap 3 4", 6);
        fault("gap 3 at", 8);
        fault("gap 3 at at", 9);
        fault("gap 3 hole 4", 6);
        fault("gap 3; at 4", 5);
        fault("gap 3 at 4 5", 11);
        fault("coin; hole 4; gap 5 at 6; key size 7; !", 38);
        fault("coin; hole 4; gap 5 at 8", 23);
        fault("coin{", 4);
        fault("coin`", 4);
        fault("hole /", 5);
        fault("hole :", 5);
        fault("hole -1", 5);
    }

    private static void numbers() {
        check.promise(39, "text, NUMBERS");
        fault("coin size 0", 10);
        fault("coin size 41", 10);
        fault("coin weight 0", 12);
        fault("coin weight 51", 12);
        fault("coin pence 241", 11);
        fault("coin pence 1000", 11);
        fault("hole 100", 5);
        fault("hole 1000", 5);
        fault("hole 4294967299", 5);
        fault("hole 99999999999999999999999999999999999999", 5);
        fault("gap 100 at 0", 4);
        fault("gap 9 at 8", 9);
        fault("gap 9 at 10", 9);
        PocketHole x = new PocketHole();
        check.due("0s ahead", text(x, "hole 00000000000000000000099"), 1);
        check.due("HOLE", x.now(1), 99);
    }

    private static void manyCoins() {
        check.promise(39, "text, an 11th COIN");
        PocketHole x = new PocketHole();
        check.due("ten", text(x, "key;key;key;key;key;key;key;key;key;key"), 10);
        check.due("COINS", x.count(1), 10);
        check.due("an 11th", text(x, "hole 3; key; hole 100"), -9);
        check.due("HOLE", x.now(1), 10);
        check.due("others may come", text(x, "hole 3; gap 4 at 5"), 2);
        check.due("a coin by name, not an item", text(x, "hole key"), -6);
        fault("key;key;key;key;key;key;key;key;key;key;  key", 42);
        x = new PocketHole();
        for (int c = 0; c < 8; c++) {
            x.coin(0);
        }
        check.due("an 11th", text(x, "flat;key left;coin"), -15);
        check.due("COINS", x.count(1), 8);
        check.due("a 10th", text(x, "flat;key left"), 2);
        check.due("LEFT", x.lie(3), 512);
    }

    private static void nothingChanges() {
        check.promise(39, "text, with all else");
        PocketHole x = Check.of("coin; heavy");
        x.seed(77);
        x.hold(3, 1);
        x.steps(2);
        check.due("a FAULT", text(x, "coin; hole 100"), -12);
        check.due("COINS", x.count(1), 2);
        check.due("STEP", x.now(0), 2);
        check.due("z", x.count(6), 77);
        check.due("spots", x.as(3, 2), 1);
        check.due("PLACES", x.lie(1), 2);
        check.due("a TEXT", text(x, "ticket left"), 1);
        check.due("the old ones stay", x.lie(1), 2);
        check.due("STEP", x.now(0), 2);
        check.due("NEAR", x.of(0, 5), 2);
        check.due("spots", x.as(3, 4), Check.KIND);
        // A coin that an image took back doesn't show through in a new one.
        x = new PocketHole();
        x.image();
        x.coin(4);
        x.change(0, 1, 33);
        x.change(0, 5, 3);
        x.undo();
        check.due("a new one", text(x, "coin"), 1);
        check.due("SIZE", x.of(0, 1), 8);
        check.due("NEAR", x.of(0, 5), 0);
    }
}
