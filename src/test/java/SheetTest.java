/** Promises 40 to 46. */
final class SheetTest {
    private static final Check check = new Check();

    public static void main(String[] args) {
        hold();
        as();
        sheet();
        write();
        copy();
        load();
        judge();
        check.end();
    }

    private static void hold() {
        check.promise(40, "hold");
        PocketHole x = Check.of("coin; coin");
        check.due("hold", x.hold(0, 0), 1);
        check.due("hold", x.hold(9, 1), 1);
        check.due("as", x.as(9, 0), 1);
        check.due("in two spots", x.hold(1, 1), 1);
        check.due("count 7", x.count(7), 3);
        check.due("another one", x.hold(0, 1), 1);
        check.due("as", x.as(0, 0), 1);
        check.due("no such spot", x.hold(10, 0), Check.BEYOND);
        check.due("no such spot", x.hold(-1, 0), Check.BEYOND);
        check.due("no such coin", x.hold(0, 2), Check.BEYOND);
        check.due("no such coin", x.hold(0, -2), Check.BEYOND);
        check.due("as before", x.as(0, 0), 1);
        check.due("nothing", x.hold(9, -1), 1);
        check.due("as", x.as(9, 0), Check.MISSING);
        check.due("count 7", x.count(7), 2);
    }

    private static void as() {
        check.promise(41, "as");
        PocketHole x = new PocketHole();
        // Of each kind: the kinds as which it may be asked for, as bits.
        int[] asked = {1, 1 | 2, 1 | 4, 1 | 2 | 8, 1 | 4 | 16, 1 | 32, 1 | 32 | 64};
        for (int kind = 0; kind <= 6; kind++) {
            x.coin(kind);
            x.hold(kind, kind);
            for (int as = 0; as <= 6; as++) {
                int due = (asked[kind] >> as & 1) == 1 ? kind : Check.KIND;
                check.due("a " + kind + " as " + as, x.as(kind, as), due);
            }
        }
        check.due("it holds nothing", x.as(8, 0), Check.MISSING);
        check.due("no such spot", x.as(10, 0), Check.BEYOND);
        check.due("no such spot", x.as(-1, 0), Check.BEYOND);
        check.due("no such kind", x.as(0, 7), Check.BEYOND);
        check.due("no such kind", x.as(0, -1), Check.BEYOND);
        check.due("BEYOND is asked first", x.as(8, 7), Check.BEYOND);
        x.change(0, 0, 4);
        check.due("by its kind now", x.as(0, 2), 0);
    }

    private static void sheet() {
        check.promise(42, "sheet");
        PocketHole x = new PocketHole();
        check.due("s -1", x.sheet(-1, 8, 3), Check.BEYOND);
        check.due("s 4", x.sheet(4, 8, 3), Check.BEYOND);
        for (int bits : new int[] {-8, 1, 7, 9, 24, 31, 33, 64}) {
            check.due("bits " + bits, x.sheet(0, bits, 3), Check.BEYOND);
        }
        check.due("n -1", x.sheet(0, 8, -1), Check.SIZE);
        check.due("n -1, bits 0", x.sheet(0, 0, -1), Check.SIZE);
        check.due("n 41", x.sheet(0, 8, 41), Check.BEYOND);
        check.due("n 41, bits 0", x.sheet(0, 0, 41), Check.BEYOND);
        check.due("BEYOND of bits is asked ahead of SIZE", x.sheet(0, 1, -1), Check.BEYOND);
        check.due("BEYOND of s is asked ahead of SIZE", x.sheet(4, 8, -1), Check.BEYOND);
        check.due("MISSING still", x.load(0), Check.MISSING);
        check.due("40 of 32 bits", x.sheet(0, 32, 40), 40);
        check.due("none of 16 bits", x.sheet(3, 16, 0), 0);
        check.due("none, not MISSING", x.load(3), 0);
        x.coin(0);
        x.write(0, 0, 33);
        check.due("anew", x.sheet(0, 32, 2), 2);
        check.due("all are 0", x.load(0), 0);
        check.due("no third number", x.write(0, 2, 1), Check.BEYOND);
        check.due("MISSING", x.sheet(0, 0, 2), 0);
        check.due("MISSING", x.write(0, 0, 1), Check.MISSING);
        check.due("a finding changes nothing", x.sheet(3, 8, -1), Check.SIZE);
        check.due("of 16 bits still", x.sheet(2, 16, 1), 1);
        check.due("of 16 bits still", x.copy(2, 0, 3, 0, 0), 0);
    }

    private static void write() {
        check.promise(43, "write");
        PocketHole x = Check.of("coin");
        check.due("s 4", x.write(4, 0, 1), Check.BEYOND);
        check.due("s -1", x.write(-1, 0, 1), Check.BEYOND);
        check.due("MISSING", x.write(0, 0, 1), Check.MISSING);
        check.due("MISSING is asked ahead of the number", x.write(0, -1, 1), Check.MISSING);
        x.sheet(0, 8, 2);
        check.due("i 0", x.write(0, 0, 1), 1);
        check.due("i 1", x.write(0, 1, 1), 1);
        check.due("i 2", x.write(0, 2, 1), Check.BEYOND);
        check.due("i -1", x.write(0, -1, 1), Check.BEYOND);
        lowest(x, 8, 256 + 7, 7);
        lowest(x, 8, 255, -1);
        lowest(x, 8, 128 + 3, -1);
        lowest(x, 8, -256 + 9, 9);
        lowest(x, 16, 65536 + 11, 11);
        lowest(x, 16, 256 + 11, -1);
        lowest(x, 16, 32768 + 5, -1);
        lowest(x, 32, 65536 + 11, -1);
        lowest(x, 32, 40, 40);
        lowest(x, 32, Integer.MIN_VALUE, -1);
    }

    /** Written as a number of so many bits it is a SIZE, or (-1) none. */
    private static void lowest(PocketHole x, int bits, int v, int size) {
        x.sheet(1, bits, 1);
        check.due("write", x.write(1, 0, v), 1);
        x.change(0, 1, 22);
        check.due("load " + v + " of " + bits, x.load(1), size < 0 ? 0 : 1);
        check.due("SIZE", x.of(0, 1), size < 0 ? 22 : size);
    }

    private static void copy() {
        check.promise(44, "copy");
        PocketHole x = Check.of("coin; coin; coin; coin; coin");
        x.sheet(0, 8, 5);
        x.sheet(1, 8, 3);
        x.sheet(2, 16, 5);
        for (int i = 0; i < 5; i++) {
            x.write(0, i, 11 + i);
        }
        check.due("s 4", x.copy(4, 0, 0, 0, 0), Check.BEYOND);
        check.due("s -1", x.copy(-1, 0, 0, 0, 0), Check.BEYOND);
        check.due("t 4", x.copy(3, 0, 4, 0, 0), Check.BEYOND);
        check.due("t -1", x.copy(3, 0, -1, 0, 0), Check.BEYOND);
        check.due("t is MISSING", x.copy(0, 0, 3, 0, 1), Check.MISSING);
        check.due("s is MISSING", x.copy(3, -1, 0, 0, 1), Check.MISSING);
        check.due("other bits", x.copy(0, 0, 2, 0, 1), Check.KIND);
        check.due("KIND is asked ahead of BEYOND", x.copy(0, -1, 2, 0, 1), Check.KIND);
        check.due("from -1", x.copy(0, -1, 1, 0, 1), Check.BEYOND);
        check.due("to -1", x.copy(0, 0, 1, -1, 1), Check.BEYOND);
        check.due("n -1", x.copy(0, 0, 1, 0, -1), Check.BEYOND);
        check.due("from has not so many", x.copy(0, 3, 1, 0, 3), Check.BEYOND);
        check.due("to has not so many", x.copy(0, 0, 1, 1, 3), Check.BEYOND);
        check.due("extremes", x.copy(0, Integer.MAX_VALUE, 1, 0, Integer.MAX_VALUE), Check.BEYOND);
        check.due("extremes", x.copy(0, 0, 1, Integer.MAX_VALUE, 2), Check.BEYOND);
        check.due("extremes", x.copy(0, 0, 1, 0, Integer.MIN_VALUE), Check.BEYOND);
        check.due("none from the end", x.copy(0, 5, 1, 3, 0), 0);
        check.due("none from behind it", x.copy(0, 6, 1, 3, 0), Check.BEYOND);
        check.due("none to behind it", x.copy(0, 5, 1, 4, 0), Check.BEYOND);
        check.due("copy", x.copy(0, 1, 1, 0, 3), 3);
        sizes(x, 1, 12, 13, 14);
        check.due("upwards in itself", x.copy(0, 0, 0, 1, 4), 4);
        sizes(x, 0, 11, 11, 12, 13, 14);
        check.due("downwards in itself", x.copy(0, 1, 0, 0, 4), 4);
        sizes(x, 0, 11, 12, 13, 14, 14);
    }

    private static void sizes(PocketHole x, int s, int... due) {
        check.due("load", x.load(s), due.length);
        for (int c = 0; c < due.length; c++) {
            check.due("SIZE of " + c, x.of(c, 1), due[c]);
        }
    }

    private static void load() {
        check.promise(45, "load");
        PocketHole x = Check.of("coin; coin; coin");
        check.due("s 4", x.load(4), Check.BEYOND);
        check.due("s -1", x.load(-1), Check.BEYOND);
        check.due("MISSING", x.load(2), Check.MISSING);
        x.sheet(2, 32, 4);
        x.write(2, 0, 40);
        x.write(2, 1, 1);
        x.write(2, 2, 41);
        x.write(2, 3, 5);
        check.due("41 is no SIZE", x.load(2), 2);
        check.due("SIZE of 0", x.of(0, 1), 40);
        check.due("SIZE of 1", x.of(1, 1), 1);
        check.due("SIZE of 2", x.of(2, 1), 8);
        x.write(2, 2, 7);
        check.due("there is no COIN 3", x.load(2), 3);
        check.due("SIZE of 2", x.of(2, 1), 7);
        x.write(2, 0, 0);
        check.due("0 is no SIZE", x.load(2), 0);
        x.write(2, 0, -1);
        check.due("-1 is no SIZE", x.load(2), 0);
        check.due("no coins", noCoins(), 0);
    }

    private static int noCoins() {
        PocketHole x = new PocketHole();
        x.sheet(0, 8, 1);
        x.write(0, 0, 3);
        return x.load(0);
    }

    private static void judge() {
        check.promise(46, "judge");
        PocketHole x = Check.of("coin; coin; gap 8 at 7");
        check.due("s 4", x.judge(4, 0), Check.BEYOND);
        check.due("s -1", x.judge(-1, 0), Check.BEYOND);
        check.due("MISSING", x.judge(0, 0), Check.MISSING);
        check.due("MISSING is asked ahead of the coin", x.judge(0, 9), Check.MISSING);
        x.sheet(0, 8, 12);
        check.due("no such coin", x.judge(0, 2), Check.BEYOND);
        check.due("no such coin", x.judge(0, -1), Check.BEYOND);
        check.due("behind the 3rd step it isn't in 0", x.judge(0, 0), 3);
        for (int i = 2; i < 12; i++) {
            x.write(0, i, 1);
        }
        check.due("1 lies in the LINING", x.judge(0, 1), 0);
        check.due("0 falls in the 11th", x.judge(0, 0), 11);
        x.write(0, 10, 2);
        check.due("and lies there in the 12th", x.judge(0, 0), 12);
        x.write(0, 11, 2);
        check.due("all are", x.judge(0, 0), 0);
        check.due("the first that isn't", x.judge(0, 1), 11);
        x.write(0, 0, 256);
        check.due("by its lowest bits", x.judge(0, 0), 0);
        x.write(0, 0, 99);
        check.due("no PLACE at all", x.judge(0, 0), 1);
        check.due("nothing changed", x.now(0), 0);
        x.sheet(1, 8, 0);
        check.due("no numbers", x.judge(1, 0), 0);
        x.put(0, 3);
        x.put(1, 3);
        Check.stepTo(x, 9997);
        x.sheet(0, 8, 2);
        check.due("STEP 9999", x.judge(0, 0), 1);
        x.sheet(0, 8, 3);
        check.due("STEP 10000", x.judge(0, 0), Check.STATE);
        check.due("BEYOND is asked first", x.judge(0, 2), Check.BEYOND);
        x.steps(2);
        check.due("no numbers", x.judge(1, 0), 0);
    }
}
