/** Promises 1 to 9. */
final class CoatTest {
    private static final Check check = new Check();

    public static void main(String[] args) {
        newObject();
        coin();
        of();
        wears();
        change();
        put();
        rule();
        sew();
        lie();
        pence();
        check.end();
    }

    private static void newObject() {
        check.promise(1, "a new object");
        PocketHole x = new PocketHole();
        int[] now = {0, 10, 0, 7, 0, 0, 0};
        for (int what = 0; what < now.length; what++) {
            check.due("now " + what, x.now(what), now[what]);
        }
        int[] count = {0, 0, 10, 0, 0, 0, 1, 0};
        for (int what = 0; what < count.length; what++) {
            check.due("count " + what, x.count(what), count[what]);
        }
        check.due("status -1", x.status(-1), 0);
        for (int place = 0; place <= 4; place++) {
            check.due("lie " + place, x.lie(place), 0);
        }
        for (int spot = 0; spot <= 9; spot++) {
            check.due("as " + spot, x.as(spot, 0), Check.MISSING);
        }
        for (int s = 0; s <= 3; s++) {
            check.due("load " + s, x.load(s), Check.MISSING);
        }
        check.due("wipe", x.wipe(), 0);
        check.due("undo", x.undo(), Check.NONE);
        check.due("tear", x.tear(), 0);
        check.due("seed", x.seed(5), 1);
    }

    private static void coin() {
        check.promise(2, "coin");
        PocketHole x = new PocketHole();
        check.due("coin -1", x.coin(-1), Check.BEYOND);
        check.due("coin 7", x.coin(7), Check.BEYOND);
        check.due("count 1", x.count(1), 0);
        for (int kind = 0; kind <= 6; kind++) {
            check.due("coin " + kind, x.coin(kind), kind);
            int[] first = {kind, 8, 5, 6, 0, 0, 0, -1};
            for (int what = 0; what < first.length; what++) {
                check.due("of " + what, x.of(kind, what), first[what]);
            }
        }
        check.due("coin 0", x.coin(0), 7);
        check.due("coin 0", x.coin(0), 8);
        check.due("coin 0", x.coin(0), 9);
        check.due("an 11th", x.coin(0), Check.FULL);
        check.due("an 11th of no kind", x.coin(7), Check.BEYOND);
        check.due("count 1", x.count(1), 10);
    }

    private static void of() {
        check.promise(3, "of");
        PocketHole x = new PocketHole();
        int[] thick = {9, 18, 9, 21, 9, 4, 4};
        int[] thickOfOne = {1, 2, 1, 5, 1, 1, 1};
        int[] thickOfForty = {40, 80, 40, 83, 40, 20, 20};
        int[] goes = {1, 1, 2, 1, 2, 1, 0};
        for (int kind = 0; kind <= 6; kind++) {
            x.coin(kind);
            x.change(kind, 1, 9);
            check.due("THICK of 9, kind " + kind, x.of(kind, 8), thick[kind]);
            x.change(kind, 1, 1);
            check.due("THICK of 1, kind " + kind, x.of(kind, 8), thickOfOne[kind]);
            x.change(kind, 1, 40);
            check.due("THICK of 40, kind " + kind, x.of(kind, 8), thickOfForty[kind]);
            check.due("GOES, kind " + kind, x.of(kind, 9), goes[kind]);
        }
        check.due("no such coin", x.of(7, 0), Check.BEYOND);
        check.due("no such coin", x.of(-1, 0), Check.BEYOND);
        check.due("no such what", x.of(0, -1), Check.BEYOND);
        check.due("no such what", x.of(0, 11), Check.BEYOND);
        check.due("extremes", x.of(Integer.MIN_VALUE, Integer.MAX_VALUE), Check.BEYOND);
        x.change(2, 2, 33);
        x.change(2, 3, 44);
        x.change(2, 5, 4);
        x.change(2, 6, 2);
        int[] told = {2, 40, 33, 44, 0, 4, 2, -1};
        for (int what = 0; what < told.length; what++) {
            check.due("of " + what, x.of(2, what), told[what]);
        }
    }

    private static void wears() {
        check.promise(3, "of, WEARS");
        PocketHole x = new PocketHole();
        for (int kind = 0; kind <= 6; kind++) {
            x.coin(kind);
            x.change(kind, 1, 9);
        }
        wears(x, 8, 1, 0, 2, 0, 3, 1, 1);
        wears(x, 9, 1, 0, 2, 0, 3, 0, 0);
        wears(x, 18, 1, 0, 2, 0, 3, 0, 0);
        wears(x, 19, 0, 0, 1, 0, 2, 0, 0);
        wears(x, 99, 0, 0, 1, 0, 2, 0, 0);
    }

    private static void wears(PocketHole x, int hole, int... due) {
        x.rule(0, hole);
        for (int kind = 0; kind <= 6; kind++) {
            check.due("WEARS with HOLE " + hole + ", kind " + kind, x.of(kind, 10), due[kind]);
        }
    }

    private static void change() {
        check.promise(4, "change");
        PocketHole x = new PocketHole();
        x.coin(0);
        int[] least = {0, 1, 1, 0, 0, 0, 0};
        int[] most = {6, 40, 50, 240, -1, 9, 7};
        int[] was = {0, 8, 5, 6, 0, 0, 0};
        for (int what = 0; what <= 6; what++) {
            if (what == 4) {
                continue;
            }
            check.due("change " + what, x.change(0, what, most[what]), was[what]);
            check.due("of " + what, x.of(0, what), most[what]);
            check.due("change " + what, x.change(0, what, least[what]), most[what]);
            check.due("too little", x.change(0, what, least[what] - 1), Check.BEYOND);
            check.due("too much", x.change(0, what, most[what] + 1), Check.BEYOND);
            check.due("of " + what, x.of(0, what), least[what]);
        }
        for (int what : new int[] {-1, 4, 7, 8, 9, 10}) {
            check.due("no such what " + what, x.change(0, what, 1), Check.BEYOND);
        }
        check.due("PLACE stays", x.of(0, 4), 0);
        check.due("no such coin", x.change(1, 0, 1), Check.BEYOND);
        check.due("no such coin", x.change(-1, 0, 1), Check.BEYOND);
        x.put(0, 1);
        x.change(0, 6, 5);
        check.due("CELL in the LINING", x.of(0, 6), 5);
    }

    private static void put() {
        check.promise(5, "put");
        PocketHole x = new PocketHole();
        x.coin(0);
        x.change(0, 5, 6);
        x.change(0, 6, 3);
        for (int place = 1; place <= 4; place++) {
            check.due("put " + place, x.put(0, place), place - 1);
            check.due("PLACE", x.of(0, 4), place);
            check.due("NEAR", x.of(0, 5), 0);
            check.due("CELL", x.of(0, 6), 0);
            x.change(0, 5, 6);
            x.change(0, 6, 3);
        }
        check.due("put -1", x.put(0, -1), Check.BEYOND);
        check.due("put 5", x.put(0, 5), Check.BEYOND);
        check.due("no such coin", x.put(1, 0), Check.BEYOND);
        check.due("no such coin", x.put(-1, 0), Check.BEYOND);
        check.due("PLACE", x.of(0, 4), 4);
        check.due("NEAR", x.of(0, 5), 6);
        check.due("put back", x.put(0, 0), 4);
        check.due("put where it is", x.put(0, 0), 0);

        x = Check.of("coin; coin; gap 8 at 7");
        x.steps(11);
        check.due("fell", x.of(0, 7), 10);
        check.due("put onto the GROUND by hand", x.put(0, 2), 2);
        check.due("no longer by a STEP", x.of(0, 7), -1);
    }

    private static void rule() {
        check.promise(6, "rule");
        PocketHole x = new PocketHole();
        check.due("HOLE", x.rule(0, 99), 10);
        check.due("HOLE", x.rule(0, 0), 99);
        check.due("HOLE", x.rule(0, 100), Check.BEYOND);
        check.due("HOLE", x.rule(0, -1), Check.BEYOND);
        check.due("GAP", x.rule(1, 99), 0);
        check.due("GAP", x.rule(1, 20), 99);
        check.due("GAP", x.rule(1, 100), Check.BEYOND);
        check.due("GAP", x.rule(1, -1), Check.BEYOND);
        check.due("AT", x.rule(2, 0), 7);
        check.due("AT", x.rule(2, 7), 0);
        check.due("AT", x.rule(2, 3), 7);
        check.due("AT", x.rule(2, 8), Check.BEYOND);
        check.due("AT", x.rule(2, -1), Check.BEYOND);
        check.due("no such rule", x.rule(3, 0), Check.BEYOND);
        check.due("no such rule", x.rule(-1, 0), Check.BEYOND);
        check.due("now 1", x.now(1), 0);
        check.due("now 2", x.now(2), 20);
        check.due("now 3", x.now(3), 3);
    }

    private static void sew() {
        check.promise(7, "sew");
        PocketHole x = new PocketHole();
        x.rule(1, 4);
        check.due("sew", x.sew(), 10);
        check.due("HOLE", x.now(1), 0);
        check.due("GAP stays", x.now(2), 4);
        check.due("sew again", x.sew(), 0);
    }

    private static void lie() {
        check.promise(8, "lie");
        PocketHole x = Check.of("coin; coin; coin; coin; coin; coin left");
        x.put(1, 1);
        x.put(2, 2);
        x.put(4, 4);
        int[] due = {1 + 8, 2, 4, 32, 16};
        for (int place = 0; place <= 4; place++) {
            check.due("lie " + place, x.lie(place), due[place]);
        }
        check.due("lie 5", x.lie(5), Check.BEYOND);
        check.due("lie -1", x.lie(-1), Check.BEYOND);
    }

    private static void pence() {
        check.promise(9, "pence");
        PocketHole x = Check.of("coin pence 1; coin pence 2; coin pence 4; coin pence 240; coin pence 240");
        x.put(1, 1);
        x.put(2, 2);
        check.due("POCKET", x.pence(0), 481);
        check.due("LINING", x.pence(1), 2);
        check.due("GROUND", x.pence(2), 4);
        check.due("LEFT", x.pence(3), 0);
        x.put(3, 4);
        x.put(4, 3);
        check.due("PAID", x.pence(4), 240);
        check.due("LEFT", x.pence(3), 240);
        check.due("pence 5", x.pence(5), Check.BEYOND);
        check.due("pence -1", x.pence(-1), Check.BEYOND);
    }
}
