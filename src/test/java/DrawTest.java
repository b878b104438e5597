/** Promises 35 and 36. */
final class DrawTest {
    private static final Check check = new Check();
    private static int z;

    public static void main(String[] args) {
        daysOfOne();
        daysOfMany();
        daysWithFalls();
        edges();
        seed();
        check.end();
    }

    private static int draw() {
        z = z * 1103515245 + 12345;
        return z >>> 8;
    }

    private static void daysOfOne() {
        check.promise(35, "days");
        boolean wasLeft = false;
        boolean wasPocket = false;
        for (int seed = 0; seed < 20; seed++) {
            PocketHole x = new PocketHole();
            x.coin(6);
            x.seed(seed);
            z = seed;
            x.change(0, 5, 2);
            check.due("days 1", x.days(1), 0);
            draw();
            int place = draw() % 2 == 0 ? 0 : 3;
            wasLeft |= place == 3;
            wasPocket |= place == 0;
            check.due("PLACE", x.of(0, 4), place);
            check.due("as by put", x.of(0, 5), 0);
            check.due("STEP", x.now(0), draw() % 8);
            check.due("z", x.count(6), z);
        }
        check.due("both ways were seen", wasLeft && wasPocket ? 1 : 0, 1);
    }

    private static void daysOfMany() {
        check.promise(35, "days of many");
        PocketHole x = Check.of("ticket; ticket; ticket; ticket; ticket pence 9");
        x.put(1, 1);
        x.put(2, 2);
        x.put(3, 4);
        x.put(4, 2);
        x.seed(-77);
        z = -77;
        int[] place = {0, 1, 2, 4, 2};
        int step = 0;
        for (int n = 1; n <= 12; n++) {
            check.due("days " + n, x.days(n), 15);
            for (int day = 0; day < n; day++) {
                int coin = draw() % 5;
                int to = draw() % 2 == 0 ? 0 : 3;
                if (place[coin] == 0 || place[coin] == 3) {
                    place[coin] = to;
                }
                step += draw() % 8;
            }
            for (int c = 0; c < 5; c++) {
                check.due("PLACE of " + c, x.of(c, 4), place[c]);
            }
            check.due("STEP", x.now(0), step);
            check.due("z", x.count(6), z);
        }
    }

    private static void daysWithFalls() {
        check.promise(35, "days with falls");
        PocketHole x = Check.of("coin; coin pence 9; coin pence 11; gap 8 at 0");
        x.put(0, 1);
        x.put(1, 1);
        x.seed(3);
        z = 3;
        draw();
        draw();
        int first = draw() % 8;
        check.due("the first day has steps", first > 0 ? 1 : 0, 1);
        check.due("0 fell on the first day", x.days(1), 6);
    }

    private static void edges() {
        check.promise(35, "days, edges");
        PocketHole x = new PocketHole();
        check.due("n 0", x.days(0), Check.BEYOND);
        check.due("n 13", x.days(13), Check.BEYOND);
        check.due("no coins", x.days(1), Check.STATE);
        x.coin(6);
        Check.stepTo(x, 9999 - 84);
        x.image();
        check.due("STEP would be 9999", x.days(12), 0);
        x.undo();
        x.steps(1);
        check.due("z", x.seed(8), 1);
        check.due("STEP would be 10000", x.days(12), Check.STATE);
        check.due("z stays", x.count(6), 8);
        check.due("11 are fine", x.days(11), 0);
        check.due("n 0", x.days(0), Check.BEYOND);
    }

    private static void seed() {
        check.promise(36, "seed");
        PocketHole x = new PocketHole();
        check.due("at first", x.seed(-1000001), 1);
        check.due("any int", x.seed(Integer.MIN_VALUE), -1000001);
        check.due("any int", x.seed(Integer.MAX_VALUE), Integer.MIN_VALUE);
        check.due("any int", x.seed(0), Integer.MAX_VALUE);
        check.due("count 6", x.count(6), 0);
        check.due("no finding", x.status(-1), 0);
    }
}
