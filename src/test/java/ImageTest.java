/** Promises 47 to 51. */
final class ImageTest {
    private static final Check check = new Check();

    public static void main(String[] args) {
        image();
        undo();
        tear();
        count();
        status();
        statusOfEach();
        check.end();
    }

    private static void image() {
        check.promise(47, "image");
        PocketHole x = Check.of("coin; heavy size 9 weight 4 pence 3; hole 20; gap 9 at 6");
        x.steps(2);
        x.seed(9);
        x.hold(2, 1);
        x.change(0, 6, 4);
        check.due("image", x.image(), 1);
        x.steps(50);
        x.change(1, 0, 5);
        x.change(1, 1, 1);
        x.change(1, 2, 2);
        x.change(1, 3, 7);
        x.put(1, 4);
        x.put(0, 3);
        x.rule(0, 1);
        x.rule(1, 2);
        x.rule(2, 3);
        x.seed(55);
        x.hold(2, 0);
        x.hold(3, 0);
        x.coin(3);
        x.hold(4, 2);
        Check.feed(x, "key");
        x.sheet(0, 8, 3);
        check.due("undo", x.undo(), 2);
        int[] now = {2, 21, 9, 6, 0, 9, 0};
        for (int what = 0; what < now.length; what++) {
            check.due("now " + what, x.now(what), now[what]);
        }
        int[] coin = {0, 8, 5, 6, 0, 2, 4, -1};
        int[] heavy = {2, 9, 4, 3, 1, 4, 0, -1};
        for (int what = 0; what < coin.length; what++) {
            check.due("of 0, " + what, x.of(0, what), coin[what]);
            check.due("of 1, " + what, x.of(1, what), heavy[what]);
        }
        check.due("COINS", x.count(1), 2);
        check.due("z", x.count(6), 9);
        check.due("spots", x.count(7), 1);
        check.due("spot 2", x.as(2, 2), 1);
        check.due("THE TAPE isn't kept", x.wipe(), 3);
        check.due("SHEETS aren't kept", x.write(0, 2, 1), 1);
    }

    private static void undo() {
        check.promise(48, "undo");
        PocketHole x = Check.of("coin; coin; gap 8 at 7");
        check.due("nothing is kept", x.undo(), Check.NONE);
        x.steps(11);
        x.image();
        x.steps(4);
        check.due("undo", x.undo(), 11);
        check.due("the STEP of the fall", x.of(0, 7), 10);
        x.steps(5);
        check.due("it stays", x.undo(), 11);
        x.steps(5);
        x.image();
        x.steps(5);
        check.due("the latest", x.undo(), 16);
        x.change(0, 1, 3);
        x.hold(0, 1);
        x.undo();
        check.due("what was kept doesn't change with it", x.of(0, 1), 8);
        check.due("nor its spots", x.as(0, 0), Check.MISSING);
    }

    private static void tear() {
        check.promise(49, "tear");
        PocketHole x = new PocketHole();
        check.due("nothing was", x.tear(), 0);
        x.image();
        check.due("something was", x.tear(), 1);
        check.due("nothing was", x.tear(), 0);
        check.due("undo", x.undo(), Check.NONE);
        x.steps(3);
        x.image();
        check.due("undo", x.undo(), 3);
        check.due("it stays behind undo", x.tear(), 1);
    }

    private static void count() {
        check.promise(50, "count");
        PocketHole x = Check.of("coin pence 1; coin pence 2; coin pence 4 left; coin pence 8; coin pence 16; hole 30");
        x.put(0, 1);
        x.put(1, 1);
        x.put(3, 2);
        x.put(4, 4);
        x.seed(-1000001);
        x.hold(0, 0);
        x.hold(5, 0);
        Check.feed(x, "hol");
        x.steps(6);
        int[] due = {6, 5, 30, 31, 1, 3, -1000001, 2};
        for (int what = 0; what < due.length; what++) {
            check.due("count " + what, x.count(what), due[what]);
        }
        check.due("no findings", x.status(-1), 0);
        check.due("count -1", x.count(-1), Check.BEYOND);
        check.due("count 8", x.count(8), Check.BEYOND);
    }

    private static void status() {
        check.promise(51, "status");
        PocketHole x = new PocketHole();
        for (int which = -1; which <= 6; which++) {
            check.due("at first " + which, x.status(which), 0);
        }
        check.due("status 7", x.status(7), Check.BEYOND);
        check.due("it counts itself", x.status(0), 1);
        check.due("status -2", x.status(-2), Check.BEYOND);
        check.due("it counts itself", x.status(-1), 2);
        x.image();
        x.coin(7);
        check.due("BEYOND", x.status(0), 3);
        x.undo();
        check.due("undo takes none back", x.status(0), 3);
        x.tear();
        x.undo();
        check.due("NONE", x.status(3), 1);
        check.due("all", x.status(-1), 4);
        Check.feed(x, "no");
        x.text();
        check.due("a FAULT is no finding", x.status(-1), 4);
    }

    private static void statusOfEach() {
        check.promise(51, "status of each");
        PocketHole x = Check.of("coin left");
        x.hold(0, 0);
        x.sheet(0, 8, 1);
        // One of BEYOND, two of FULL, three of KIND, ..: so none is taken for another.
        x.feed(0, 0);
        Check.stepTo(x, 9999);
        for (int i = 0; i < 30; i++) {
            x.feed(0, 4);
        }
        for (int i = 0; i < 2; i++) {
            x.feed(0, 1);
        }
        for (int i = 0; i < 3; i++) {
            x.as(0, 1);
        }
        for (int i = 0; i < 4; i++) {
            x.pay(1);
        }
        for (int i = 0; i < 5; i++) {
            x.steps(1);
        }
        for (int i = 0; i < 6; i++) {
            x.as(1, 0);
        }
        for (int i = 0; i < 7; i++) {
            x.sheet(0, 8, -1);
        }
        for (int which = 0; which <= 6; which++) {
            check.due("status " + which, x.status(which), which + 1);
        }
        check.due("all", x.status(-1), 28);
    }
}
