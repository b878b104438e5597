import java.util.Arrays;

/** Promises 40 to 46, sentence by sentence. */
final class SheetEdges {
    private SheetEdges() {
    }

    static void all(Edges e) {
        hold(e);
        as(e);
        sheet(e);
        sheetRefused(e);
        write(e);
        copy(e);
        copyRefused(e);
        load(e);
        judge(e);
    }

    private static void hold(Edges e) {
        e.sentence(40, "A SPOT holds a COIN, or nothing (-1): 1.");
        for (int spot = 0; spot <= 9; spot++) {
            PocketHole x = Worlds.full();
            e.due("hold(" + spot + ", 9)", x.hold(spot, 9), 1);
            e.due("as(" + spot + ", 0)", x.as(spot, 0), 9);
            e.due("hold(" + spot + ", 0)", x.hold(spot, 0), 1);
            e.due("as(" + spot + ", 0)", x.as(spot, 0), 0);
            e.due("hold(" + spot + ", -1)", x.hold(spot, -1), 1);
            e.due("as(" + spot + ", 0)", x.as(spot, 0), Check.MISSING);
            e.due("hold(" + spot + ", -1) again", x.hold(spot, -1), 1);
        }
        PocketHole x = Worlds.rich();
        x.hold(0, 3);
        x.hold(0, -1);
        e.alike("all else", x, Worlds.rich());
        e.due("without COINS", new PocketHole().hold(9, -1), 1);
        e.sentence(40, "BEYOND.");
        e.beyond("hold(?, 0)", 0, 9, (y, v) -> y.hold(v, 0));
        e.beyond("hold(?, -1)", 0, 9, (y, v) -> y.hold(v, -1));
        e.beyond("hold(2, ?)", -1, 6, (y, v) -> y.hold(2, v));
        e.beyond(Worlds::full, "hold(2, ?)", -1, 9, (y, v) -> y.hold(2, v));
        e.beyond(PocketHole::new, "hold(0, ?) without COINS", -1, -1, (y, v) -> y.hold(0, v));
    }

    /** A coin of each kind; the spots hold that of their number. */
    private static PocketHole ofEachKind() {
        PocketHole x = new PocketHole();
        for (int kind = 0; kind <= 6; kind++) {
            x.coin(kind);
            x.hold(kind, kind);
        }
        return x;
    }

    private static void as(Edges e) {
        // By kinds: those as which it may be asked for, as a set.
        int[] asks = {1, 1 | 2, 1 | 4, 1 | 2 | 8, 1 | 4 | 16, 1 | 32, 1 | 32 | 64};
        e.sentence(41, "What a SPOT holds as one of a kind (0 to 6): the number of the COIN.");
        for (int kind = 0; kind <= 6; kind++) {
            for (int as = 0; as <= 6; as++) {
                if ((asks[kind] >> as & 1) == 1) {
                    e.due("a " + kind + " as " + as, ofEachKind().as(kind, as), kind);
                }
            }
        }
        e.still("as(5, 0)", x -> x.as(5, 0), 0);
        e.still("the last SPOT: as(9, 6)", x -> x.as(9, 6), 4);
        e.sentence(41, "BEYOND.");
        e.beyond("as(?, 0)", 0, 9, (x, v) -> x.as(v, 0));
        e.beyond("as(2, ?)", 0, 6, (x, v) -> x.as(2, v));
        e.beyond(SheetEdges::ofEachKind, "as(6, ?)", 0, 6, (x, v) -> x.as(6, v));
        e.sentence(41, "MISSING: it holds nothing.");
        for (int spot = 0; spot <= 9; spot++) {
            int asked = spot;
            e.refused(PocketHole::new, "as(" + spot + ", 0)", x -> x.as(asked, 0), Check.MISSING);
        }
        for (int spot : new int[] {0, 1, 3, 4, 6, 7, 8}) {
            e.refused("as(" + spot + ", 6)", x -> x.as(spot, 6), Check.MISSING);
        }
        e.sentence(41, "KIND: it isn't of that kind, nor of one under it.");
        for (int kind = 0; kind <= 6; kind++) {
            for (int as = 0; as <= 6; as++) {
                if ((asks[kind] >> as & 1) == 0) {
                    int spot = kind;
                    int asked = as;
                    e.refused(SheetEdges::ofEachKind, "a " + kind + " as " + as, x -> x.as(spot, asked), Check.KIND);
                }
            }
        }
    }

    /** Number i of a sheet of so many bits, if it is a SIZE, else 0; sheet 3 is used for it. */
    private static int number(PocketHole x, int s, int bits, int i) {
        x.sheet(3, bits, 1);
        x.copy(s, i, 3, 0, 1);
        return x.load(3) == 1 ? x.of(0, 1) : 0;
    }

    private static void sheet(Edges e) {
        e.sentence(42, "A sheet has n numbers, all 0, of 8, 16 or 32 bits;");
        for (int bits : new int[] {8, 16, 32}) {
            for (int n : new int[] {1, 2, 39, 40}) {
                PocketHole x = Worlds.of("ticket");
                x.sheet(2, bits, n);
                e.due("the last number", x.write(2, n - 1, 7), 1);
                e.due("it is so", number(x, 2, bits, n - 1), 7);
                e.due("one behind it", x.write(2, n, 7), Check.BEYOND);
                x.sheet(2, bits, n);
                e.due("all are 0 again: judge(2, 0)", x.judge(2, 0), 0);
                e.due("of as many bits", x.copy(2, 0, 3, 0, 0), 0);
                x.sheet(3, bits == 8 ? 16 : 8, 1);
                e.due("not of others", x.copy(2, 0, 3, 0, 0), Check.KIND);
            }
            PocketHole x = Worlds.of("coin");
            x.sheet(2, bits, 0);
            e.due("no number", x.write(2, 0, 7), Check.BEYOND);
            e.due("not MISSING", x.load(2), 0);
        }
        e.sentence(42, "bits 0: it is MISSING:");
        for (int s = 0; s <= 3; s++) {
            PocketHole x = Worlds.rich();
            x.sheet(s, 0, 3);
            e.due("load(" + s + ")", x.load(s), Check.MISSING);
            x.sheet(s, 8, 3);
            e.due("anew all are 0", x.load(s), 0);
        }
        e.sentence(42, "n (0 if it is MISSING).");
        for (int s = 0; s <= 3; s++) {
            for (int n = 0; n <= 40; n++) {
                PocketHole x = Worlds.of("coin");
                e.due("sheet(" + s + ", 8, " + n + ")", x.sheet(s, 8, n), n);
                e.due("sheet(" + s + ", 0, " + n + ")", x.sheet(s, 0, n), 0);
            }
        }
    }

    private static void sheetRefused(Edges e) {
        e.sentence(42, "BEYOND: no such sheet, other bits.");
        for (int bits : new int[] {0, 8, 16, 32}) {
            e.beyond("sheet(?, " + bits + ", 1)", 0, 3, (x, v) -> x.sheet(v, bits, 1));
        }
        for (int bits : new int[] {-32, -16, -8, -1, 1, 4, 7, 9, 15, 17, 24, 31, 33, 64, Integer.MIN_VALUE, Integer.MAX_VALUE}) {
            e.refused("sheet(0, " + bits + ", 1)", x -> x.sheet(0, bits, 1), Check.BEYOND);
            e.refused("sheet(3, " + bits + ", 1)", x -> x.sheet(3, bits, 1), Check.BEYOND);
        }
        e.sentence(42, "SIZE: n is below 0 (also with bits 0).");
        for (int bits : new int[] {0, 8, 16, 32}) {
            for (int n : new int[] {-1, -2, Integer.MIN_VALUE}) {
                e.refused("sheet(0, " + bits + ", " + n + ")", x -> x.sheet(0, bits, n), Check.SIZE);
                e.refused("sheet(3, " + bits + ", " + n + ")", x -> x.sheet(3, bits, n), Check.SIZE);
            }
        }
        e.sentence(42, "BEYOND: n is above 40 (also with bits 0).");
        for (int bits : new int[] {0, 8, 16, 32}) {
            for (int n : new int[] {41, 42, Integer.MAX_VALUE}) {
                e.refused("sheet(0, " + bits + ", " + n + ")", x -> x.sheet(0, bits, n), Check.BEYOND);
                e.refused("sheet(3, " + bits + ", " + n + ")", x -> x.sheet(3, bits, n), Check.BEYOND);
            }
        }
    }

    private static void written(Edges e, int bits, int v, int due) {
        PocketHole x = Worlds.of("coin");
        x.sheet(1, bits, 40);
        for (int i : new int[] {0, 39}) {
            e.due("write(1, " + i + ", " + v + ") of " + bits + " bits", x.write(1, i, v), 1);
            e.due("it is", number(x, 1, bits, i), due);
        }
        e.due("its neighbour", number(x, 1, bits, 1), 0);
    }

    private static void write(Edges e) {
        e.sentence(43, "Number i of a sheet becomes v (its lowest bits): 1.");
        written(e, 8, 40, 40);
        written(e, 8, 0x100 + 7, 7);
        written(e, 8, 0x7fffff00 + 7, 7);
        written(e, 8, Integer.MIN_VALUE + 7, 7);
        written(e, 8, 0x80 + 7, 0);
        written(e, 8, 255, 0);
        written(e, 16, 0x100 + 7, 0);
        written(e, 16, 0x10000 + 7, 7);
        written(e, 16, Integer.MIN_VALUE + 7, 7);
        written(e, 16, 0x8000 + 7, 0);
        written(e, 32, 40, 40);
        written(e, 32, 0x10000 + 7, 0);
        written(e, 32, Integer.MIN_VALUE + 7, 0);
        e.sentence(43, "BEYOND: no such sheet.");
        e.beyond("write(?, 0, 1)", 0, 3, (x, v) -> x.write(v, 0, 1));
        e.sentence(43, "MISSING.");
        e.refused("write(3, 0, 1)", x -> x.write(3, 0, 1), Check.MISSING);
        for (int s = 0; s <= 3; s++) {
            int asked = s;
            e.refused(PocketHole::new, "write(" + s + ", 0, 1) at first", x -> x.write(asked, 0, 1), Check.MISSING);
        }
        e.sentence(43, "BEYOND: no such number.");
        e.beyond("write(0, ?, 1)", 0, 2, (x, v) -> x.write(0, v, 1));
        e.beyond("write(1, ?, 1)", 0, 1, (x, v) -> x.write(1, v, 1));
        e.beyond("write(2, ?, 1)", 0, 0, (x, v) -> x.write(2, v, 1));
        e.beyond(SheetEdges::ofForty, "write(0, ?, 1)", 0, 39, (x, v) -> x.write(0, v, 1));
        e.beyond(SheetEdges::ofForty, "write(1, ?, 1) of none", 0, -1, (x, v) -> x.write(1, v, 1));
    }

    /** Sheet 0 has 40 numbers, 1 and 2 none. */
    private static PocketHole ofForty() {
        PocketHole x = new PocketHole();
        x.sheet(0, 8, 40);
        for (int i = 0; i < 40; i++) {
            x.write(0, i, i + 1);
        }
        x.sheet(1, 8, 0);
        x.sheet(2, 16, 0);
        return x;
    }

    /** Of 8 bits: sheet 0 with 11 to 15, sheet 1 with 21 to 23. */
    private static PocketHole twoSheets() {
        PocketHole x = Worlds.of("coin");
        x.sheet(0, 8, 5);
        x.sheet(1, 8, 3);
        for (int i = 0; i < 5; i++) {
            x.write(0, i, 11 + i);
            x.write(1, i, 21 + i);
        }
        return x;
    }

    private static void copied(Edges e, int s, int from, int t, int to, int n, int... due) {
        PocketHole x = twoSheets();
        String call = "copy(" + s + ", " + from + ", " + t + ", " + to + ", " + n + ")";
        e.due(call, x.copy(s, from, t, to, n), n);
        for (int i = 0; i < due.length; i++) {
            e.due("behind " + call + " number " + i, number(x, t, 8, i), due[i]);
        }
        if (s != t) {
            e.due("the first of what it comes from", number(x, s, 8, 0), s == 0 ? 11 : 21);
        }
    }

    private static void copy(Edges e) {
        e.sentence(44, "n numbers of a sheet from one on come to another one from one on (as they all were): n.");
        copied(e, 0, 0, 1, 0, 3, 11, 12, 13);
        copied(e, 0, 2, 1, 0, 3, 13, 14, 15);
        copied(e, 1, 0, 0, 2, 3, 11, 12, 21, 22, 23);
        copied(e, 0, 4, 1, 2, 1, 21, 22, 15);
        copied(e, 0, 0, 1, 0, 0, 21, 22, 23);
        copied(e, 0, 5, 1, 3, 0, 21, 22, 23);
        copied(e, 0, 0, 0, 0, 5, 11, 12, 13, 14, 15);
        copied(e, 0, 0, 0, 1, 4, 11, 11, 12, 13, 14);
        copied(e, 0, 1, 0, 0, 4, 12, 13, 14, 15, 15);
        copied(e, 0, 0, 0, 4, 1, 11, 12, 13, 14, 11);
        PocketHole x = Worlds.of("coin");
        x.sheet(0, 32, 40);
        x.sheet(1, 32, 40);
        x.write(0, 39, 9);
        e.due("all of 40", x.copy(0, 0, 1, 0, 40), 40);
        e.due("the last", number(x, 1, 32, 39), 9);
        x.sheet(0, 16, 0);
        e.due("none of none", x.copy(0, 0, 0, 0, 0), 0);
    }

    private static void copyRefused(Edges e) {
        e.sentence(44, "BEYOND: no such sheet (either).");
        e.beyond("copy(?, 0, 0, 0, 1)", 0, 3, (x, v) -> x.copy(v, 0, 0, 0, 1));
        e.beyond("copy(0, 0, ?, 0, 1)", 0, 3, (x, v) -> x.copy(0, 0, v, 0, 1));
        e.sentence(44, "MISSING: one is.");
        e.refused("copy(3, 0, 0, 0, 1)", x -> x.copy(3, 0, 0, 0, 1), Check.MISSING);
        e.refused("copy(0, 0, 3, 0, 1)", x -> x.copy(0, 0, 3, 0, 1), Check.MISSING);
        e.refused("copy(3, 0, 3, 0, 0)", x -> x.copy(3, 0, 3, 0, 0), Check.MISSING);
        e.refused(PocketHole::new, "copy(0, 0, 1, 0, 0) at first", x -> x.copy(0, 0, 1, 0, 0), Check.MISSING);
        e.sentence(44, "KIND: they are not of as many bits.");
        for (int s = 0; s <= 2; s++) {
            for (int t = 0; t <= 2; t++) {
                if (s != t) {
                    int from = s;
                    int to = t;
                    e.refused("copy(" + s + ", 0, " + t + ", 0, 1)", x -> x.copy(from, 0, to, 0, 1), Check.KIND);
                    e.refused("copy(" + s + ", 0, " + t + ", 0, 0)", x -> x.copy(from, 0, to, 0, 0), Check.KIND);
                }
            }
        }
        e.refused(SheetEdges::ofForty, "of none of 8 and none of 16", x -> x.copy(1, 0, 2, 0, 0), Check.KIND);
        e.sentence(44, "BEYOND: one has not so many, or from, to or n is below 0.");
        int[][] asks = {{0, 0, 1, 0, 4}, {0, 3, 1, 0, 3}, {0, 0, 1, 1, 3}, {1, 1, 0, 0, 3}, {1, 0, 0, 3, 3}, {0, 5, 1, 0, 1},
            {0, 6, 1, 0, 0}, {0, 0, 1, 3, 1}, {0, 0, 1, 4, 0}, {0, 0, 0, 0, 6}, {0, -1, 1, 0, 1}, {0, 0, 1, -1, 1},
            {0, 0, 1, 0, -1}, {0, -1, 1, 0, 0}, {0, 0, 1, -1, 0}, {0, 1, 1, 1, -1}, {0, Integer.MAX_VALUE, 1, 0, 1},
            {0, 1, 1, 0, Integer.MAX_VALUE}, {0, 0, 1, Integer.MAX_VALUE, 1}, {0, Integer.MAX_VALUE, 1, 0, Integer.MAX_VALUE},
            {0, Integer.MIN_VALUE, 1, 0, 1}, {0, 0, 1, Integer.MIN_VALUE, 1}, {0, 0, 1, 0, Integer.MIN_VALUE},
            {0, Integer.MIN_VALUE, 1, 0, Integer.MIN_VALUE}, {0, 1, 1, Integer.MAX_VALUE, Integer.MAX_VALUE}};
        for (int[] a : asks) {
            e.refused(SheetEdges::twoSheets, "copy" + Arrays.toString(a),
                x -> x.copy(a[0], a[1], a[2], a[3], a[4]), Check.BEYOND);
        }
        e.refused(SheetEdges::ofForty, "41 of 40", x -> x.copy(0, 0, 0, 0, 41), Check.BEYOND);
        e.refused(SheetEdges::ofForty, "one of none", x -> x.copy(1, 0, 0, 0, 1), Check.BEYOND);
        e.refused(SheetEdges::ofForty, "one to none", x -> x.copy(0, 0, 1, 0, 1), Check.BEYOND);
    }

    /** What load() answers for a sheet of these numbers, with so many coins. */
    private static PocketHole numbers(int coins, int bits, int... numbers) {
        PocketHole x = new PocketHole();
        for (int c = 0; c < coins; c++) {
            x.coin(0);
        }
        x.sheet(0, bits, numbers.length);
        for (int i = 0; i < numbers.length; i++) {
            x.write(0, i, numbers[i]);
        }
        return x;
    }

    private static void load(Edges e) {
        e.sentence(45, "Numbers of a sheet, from its begin on, become SIZES of COINS 0, 1, ..: how many came.");
        PocketHole x = numbers(3, 8, 1, 40, 7);
        e.due("load(0)", x.load(0), 3);
        e.due("SIZE of 0", x.of(0, 1), 1);
        e.due("SIZE of 1", x.of(1, 1), 40);
        e.due("SIZE of 2", x.of(2, 1), 7);
        x = numbers(10, 32, 1, 2, 3, 4, 5, 6, 7, 8, 9, 10);
        e.due("ten", x.load(0), 10);
        e.due("SIZE of 9", x.of(9, 1), 10);
        x = numbers(3, 16, 9);
        e.due("fewer than COINS", x.load(0), 1);
        e.due("SIZE of 1", x.of(1, 1), 8);
        PocketHole loaded = Worlds.rich();
        e.due("load(1)", loaded.load(1), 2);
        PocketHole same = Worlds.rich();
        same.change(0, 1, 8);
        same.change(1, 1, 9);
        e.alike("all else", loaded, same);
        e.sentence(45, "It ends at the first that isn't 1 to 40, or for which there is no COIN.");
        for (int v : new int[] {0, -1, 41, 127, -128}) {
            x = numbers(3, 8, 11, v, 13);
            e.due("load(0), " + v, x.load(0), 1);
            e.due("SIZE of 0", x.of(0, 1), 11);
            e.due("SIZE of 1", x.of(1, 1), 8);
            e.due("SIZE of 2", x.of(2, 1), 8);
            e.still(() -> numbers(3, 8, v, 12, 13), "load(0), the first is " + v, y -> y.load(0), 0);
        }
        x = numbers(2, 8, 11, 12, 13);
        e.due("no third COIN", x.load(0), 2);
        e.still(() -> numbers(0, 8, 11, 12, 13), "no COIN at all", y -> y.load(0), 0);
        e.still(() -> numbers(3, 8), "no number at all", y -> y.load(0), 0);
        x = numbers(10, 8, 1, 2, 3, 4, 5, 6, 7, 8, 9, 10, 11);
        e.due("eleven for ten", x.load(0), 10);
        e.sentence(45, "BEYOND: no such sheet.");
        e.beyond("load(?)", 0, 3, (y, v) -> y.load(v));
        e.sentence(45, "MISSING.");
        e.refused("load(3)", y -> y.load(3), Check.MISSING);
        e.refused(PocketHole::new, "load(0) at first", y -> y.load(0), Check.MISSING);
    }

    /** Two coins, of which 0 lies in the LINING behind 3 to 10 STEPS, and then on the GROUND; a sheet of its PLACES. */
    private static PocketHole toJudge(int step, int n) {
        PocketHole x = Worlds.bare(step);
        Worlds.feed(x, "coin;coin;gap 8 at 7");
        x.text();
        x.sheet(2, 8, n);
        for (int i = 0; i < n; i++) {
            x.write(2, i, i < 2 ? 0 : i < 10 ? 1 : 2);
        }
        return x;
    }

    private static PocketHole misjudged(int place) {
        PocketHole x = toJudge(0, 40);
        x.write(2, place, 4);
        return x;
    }

    private static void judge(Edges e) {
        e.sentence(46, "THE READER: numbers of a sheet are PLACES of a COIN behind 1, 2, .. STEPS AHEAD: 0 if all are;");
        for (int n : new int[] {0, 1, 2, 3, 10, 11, 39, 40}) {
            e.still(() -> toJudge(0, n), "judge(2, 0), of " + n, x -> x.judge(2, 0), 0);
        }
        e.sentence(46, "else 1 and the place of the first that isn't.");
        for (int i : new int[] {0, 1, 2, 9, 10, 38, 39}) {
            e.still(() -> misjudged(i), "judge(2, 0), at " + i, x -> x.judge(2, 0), 1 + i);
        }
        e.still(() -> toJudge(0, 40), "judge(2, 1), which stays in the LINING", x -> x.judge(2, 1), 11);
        for (int v : new int[] {-1, 5, 127, 128}) {
            PocketHole x = toJudge(0, 4);
            x.write(2, 3, v);
            e.due("no PLACE at all, " + v, x.judge(2, 0), 4);
        }
        e.sentence(46, "BEYOND: no such sheet.");
        e.beyond("judge(?, 0)", 0, 3, (x, v) -> x.judge(v, 0));
        e.sentence(46, "MISSING.");
        e.refused("judge(3, 0)", x -> x.judge(3, 0), Check.MISSING);
        e.refused(PocketHole::new, "judge(0, 0) at first", x -> x.judge(0, 0), Check.MISSING);
        e.sentence(46, "BEYOND: no such COIN.");
        e.beyond("judge(0, ?)", 0, 6, (x, v) -> x.judge(0, v));
        e.beyond(() -> numbers(0, 8), "judge(0, ?) without COINS", 0, -1, (x, v) -> x.judge(0, v));
        e.sentence(46, "STATE: STEP would be above 9999.");
        e.refused(() -> toJudge(9960, 40), "40 at 9960", x -> x.judge(2, 0), Check.STATE);
        e.still(() -> toJudge(9959, 40), "40 at 9959", x -> x.judge(2, 0), 0);
        e.refused(() -> toJudge(9999, 1), "1 at 9999", x -> x.judge(2, 0), Check.STATE);
        e.still(() -> toJudge(9998, 1), "1 at 9998", x -> x.judge(2, 0), 0);
        e.still(() -> toJudge(9999, 0), "0 at 9999", x -> x.judge(2, 0), 0);
    }
}
