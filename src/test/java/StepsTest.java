/** Promises 10 to 16. */
final class StepsTest {
    // Two coins that come to the lining in the 3rd step, to cell 7 in the 10th, and 0 falls in the 11th.
    private static final String TWO = "coin; coin pence 9; gap 8 at 7";
    private static final Check check = new Check();

    public static void main(String[] args) {
        steps();
        near();
        keys();
        tickets();
        hem();
        lateComer();
        lastSteps();
        now();
        ahead();
        when();
        falls();
        first();
        cell();
        check.end();
    }

    private static void steps() {
        check.promise(10, "steps");
        PocketHole x = Check.of(TWO);
        check.due("steps 0", x.steps(0), Check.BEYOND);
        check.due("steps -1", x.steps(-1), Check.BEYOND);
        check.due("steps 101", x.steps(101), Check.BEYOND);
        check.due("STEP", x.now(0), 0);
        check.due("steps 2", x.steps(2), 0);
        check.due("NEAR", x.of(0, 5), 2);
        check.due("POCKET", x.lie(0), 3);
        check.due("steps 1", x.steps(1), 0);
        check.due("LINING", x.lie(1), 3);
        check.due("NEAR", x.of(0, 5), 3);
        check.due("CELL", x.of(0, 6), 0);
        check.due("HOLE worn by both", x.now(1), 12);
        check.due("steps 7", x.steps(7), 0);
        check.due("CELL", x.of(0, 6), 7);
        check.due("steps 1", x.steps(1), 1);
        check.due("GROUND", x.lie(2), 1);
        check.due("STEP of the fall", x.of(0, 7), 10);
        check.due("1 is alone in its cell", x.of(1, 7), -1);
        check.due("steps 100", x.steps(100), 0);
        check.due("1 is there still", x.lie(1), 2);
        check.due("CELL", x.of(1, 6), 7);
        check.due("STEP", x.now(0), 111);

        x = Check.of("coin");
        x.change(0, 6, 5);
        x.steps(3);
        check.due("it comes to CELL 0", x.of(0, 6), 0);
        x = Check.of("coin; coin; coin; gap 8 at 7");
        check.due("two of three fall", x.steps(100), 2);
        x = Check.of("coin; coin; gap 7 at 7");
        check.due("too narrow a gap", x.steps(100), 0);
        x = Check.of("coin size 10; coin size 11");
        x.steps(3);
        check.due("as thick as the hole, which 0 widens for 1", x.lie(1), 3);
        x = Check.of("coin size 11; coin size 10");
        x.steps(3);
        check.due("0 is asked ahead of that", x.lie(1), 2);
        x.steps(1);
        check.due("then it goes, too", x.lie(1), 3);
    }

    private static void near() {
        check.promise(10, "steps, NEAR");
        PocketHole x = Check.of("wrapped size 6; heavy size 11; knotted size 4");
        x.steps(1);
        check.due("WRAPPED", x.of(0, 5), 1);
        check.due("HEAVY", x.of(1, 5), 2);
        check.due("KNOTTED", x.of(2, 5), 1);
        x.steps(3);
        check.due("HEAVY", x.of(1, 5), 8);
        x.steps(1);
        check.due("9 at most", x.of(1, 5), 9);
        x.steps(20);
        check.due("9 at most", x.of(0, 5), 9);
        check.due("all are there", x.lie(0), 7);
        check.due("HOLE", x.now(1), 10);
    }

    private static void keys() {
        check.promise(10, "steps, keys");
        PocketHole x = Check.of("key size 40");
        x.steps(4);
        check.due("NEAR was 2 at STEP 0", x.now(1), 10);
        x.steps(1);
        check.due("STEP 4", x.now(1), 11);
        x.steps(3);
        check.due("STEPS 5 to 7", x.now(1), 11);
        x.steps(1);
        check.due("STEP 8", x.now(1), 12);
        x = Check.of("key size 40");
        x.change(0, 5, 1);
        x.steps(1);
        check.due("NEAR 3 at STEP 0", x.now(1), 11);
        x = Check.of("heavy size 40");
        x.steps(50);
        check.due("no key", x.now(1), 10);
        x = Check.of("key size 11; coin size 12");
        x.steps(5);
        check.due("a key that widens doesn't go in that step", x.lie(0), 3);
        x.steps(1);
        check.due("it wears 3, then the coin goes", x.lie(1), 3);
        check.due("and wears 1", x.now(1), 15);
        x = Check.of("key size 40; hole 99");
        x.steps(2);
        check.due("HOLE is 99 at most", x.now(1), 99);
        x = Check.of("key size 40; hole 98");
        x.steps(2);
        check.due("HOLE is 99 at most", x.now(1), 99);
    }

    private static void tickets() {
        check.promise(10, "steps, tickets");
        PocketHole x = Check.of("ticket size 1");
        x.steps(100);
        check.due("it stays", x.lie(0), 1);
        check.due("NEAR", x.of(0, 5), 0);
        x.change(0, 5, 3);
        x.steps(1);
        check.due("at the hole it falls", x.lie(1), 1);
        x.steps(50);
        check.due("in the hem it stays where it is", x.of(0, 6), 0);
    }

    private static void hem() {
        check.promise(10, "steps, CELLS");
        PocketHole x = Check.of("heavy; coin");
        x.put(0, 1);
        x.put(1, 1);
        int[] heavy = {2, 4, 6, 7, 7, 7, 7, 7};
        int[] plain = {1, 2, 3, 4, 5, 6, 7, 7};
        for (int i = 0; i < 8; i++) {
            x.steps(1);
            check.due("HEAVY, step " + i, x.of(0, 6), heavy[i]);
            check.due("COIN, step " + i, x.of(1, 6), plain[i]);
        }
    }

    private static void lateComer() {
        check.promise(10, "steps, who lies there");
        PocketHole x = Check.of("coin; coin; gap 8 at 0");
        x.put(0, 1);
        x.change(1, 5, 2);
        check.due("one that just came counts", x.steps(1), 1);
        check.due("0 fell", x.lie(2), 1);
        check.due("what just came doesn't go on", x.of(1, 6), 0);
        check.due("STEP of the fall", x.of(0, 7), 0);

        // 0 goes from 6 to 7 ahead of 1, so 1 finds it there; the other way round it doesn't.
        x = Check.of("coin; coin; gap 8 at 7");
        x.put(0, 1);
        x.put(1, 1);
        x.change(0, 6, 6);
        x.change(1, 6, 7);
        check.due("0 came there ahead of 1", x.steps(1), 1);
        check.due("1 fell", x.lie(2), 2);
        x = Check.of("coin; coin; gap 8 at 7");
        x.put(0, 1);
        x.put(1, 1);
        x.change(0, 6, 7);
        x.change(1, 6, 6);
        check.due("1 isn't there yet", x.steps(1), 0);
        check.due("then it is", x.steps(1), 1);
        check.due("0 fell", x.lie(2), 1);
        x = Check.of("coin; coin; gap 8 at 2");
        x.put(0, 1);
        x.change(0, 6, 2);
        x.change(1, 6, 2);
        check.due("one in the POCKET doesn't count", x.steps(1), 0);
    }

    private static void lastSteps() {
        check.promise(10, "steps, the last");
        PocketHole x = new PocketHole();
        x.coin(0);
        x.put(0, 3);
        Check.stepTo(x, 9900);
        check.due("steps 100", x.steps(100), Check.STATE);
        check.due("BEYOND is asked first", x.steps(101), Check.BEYOND);
        check.due("steps 99", x.steps(99), 0);
        check.due("STEP", x.now(0), 9999);
        check.due("steps 1", x.steps(1), Check.STATE);
        check.promise(12, "ahead, the last steps");
        check.due("ahead 0", x.ahead(0, 2), 10);
        check.due("ahead 1", x.ahead(1, 2), Check.STATE);
        check.due("ahead 101", x.ahead(101, 2), Check.BEYOND);
        check.promise(16, "cell, the last steps");
        check.due("cell 0", x.cell(0, 0), Check.NONE);
        check.due("cell 1", x.cell(0, 1), Check.STATE);
        check.due("cell of none", x.cell(1, 1), Check.BEYOND);
    }

    private static void now() {
        check.promise(11, "now");
        PocketHole x = Check.of("coin weight 1; coin weight 2; coin weight 4; coin weight 8 left; coin weight 16; coin weight 32; hole 20; gap 3 at 5");
        x.put(1, 1);
        x.put(2, 1);
        x.put(4, 2);
        x.put(5, 4);
        x.change(1, 6, 3);
        check.due("CLINKS", x.now(4), 0);
        x.change(2, 6, 3);
        int[] due = {0, 20, 3, 5, 1, 7, 8};
        for (int what = 0; what < due.length; what++) {
            check.due("now " + what, x.now(what), due[what]);
        }
        x.change(0, 6, 3);
        check.due("not in the LINING", x.now(4), 1);
        x.put(0, 1);
        x.change(0, 6, 3);
        check.due("three pairs", x.now(4), 3);
        x.change(0, 6, 2);
        check.due("one pair", x.now(4), 1);
        x.steps(4);
        check.due("STEP", x.now(0), 4);
        check.due("now 7", x.now(7), Check.BEYOND);
        check.due("now -1", x.now(-1), Check.BEYOND);
    }

    private static void ahead() {
        check.promise(12, "ahead");
        PocketHole x = Check.of(TWO);
        x.coin(0);
        x.put(2, 2);
        ahead(x, 0, 0, 0, 10, 0, 6, 0);
        ahead(x, 2, 0, 0, 10, 0, 6, 0);
        ahead(x, 3, 3, 0, 12, 1, 6, 3);
        ahead(x, 10, 3, 0, 12, 1, 6, 3);
        ahead(x, 11, 3, 1, 12, 0, 12, 2);
        ahead(x, 100, 3, 1, 12, 0, 12, 2);
        check.due("nothing changed", x.now(0), 0);
        check.due("nothing changed", x.lie(0), 3);
        check.due("nothing changed", x.now(1), 10);
        x.steps(11);
        ahead(x, 5, 0, 0, 12, 0, 12, 2);
        check.due("n -1", x.ahead(-1, 0), Check.BEYOND);
        check.due("n 101", x.ahead(101, 0), Check.BEYOND);
        check.due("what -1", x.ahead(1, -1), Check.BEYOND);
        check.due("what 6", x.ahead(1, 6), Check.BEYOND);
    }

    private static void ahead(PocketHole x, int n, int... due) {
        for (int what = 0; what < due.length; what++) {
            check.due("ahead " + n + ", " + what, x.ahead(n, what), due[what]);
        }
    }

    private static void when() {
        check.promise(13, "when");
        PocketHole x = Check.of("coin; heavy; coin size 30; coin left; ticket; key size 23");
        check.due("COIN", x.when(0), 3);
        check.due("HEAVY", x.when(1), 2);
        check.due("it isn't in the POCKET now", x.when(3), 0);
        check.due("TICKET", x.when(4), Check.NONE);
        // HOLE: 12 by the heavy one, 13 by the coin; 14, 15, .. at STEPS 4, 8, ..: 23 at STEP 40.
        check.due("KEY", x.when(5), 42);
        // 26 by the key in STEP 41.
        check.due("too thick", x.when(2), Check.NONE);
        check.due("no such coin", x.when(6), Check.BEYOND);
        check.due("no such coin", x.when(-1), Check.BEYOND);
        // KEYS widen it by 3 each 4 steps, at STEPS 4, 8, .., 96: 72 in all.
        x = Check.of("knotted size 39; key size 40; key size 40; key size 40; hole 0");
        check.due("keys go at STEP 56 or 57", x.when(1), 57 + 1);
        check.due("the knotted one stays", x.when(0), Check.NONE);
        x = Check.of("key size 34; hole 10");
        check.due("34 at STEP 96, it goes at STEP 97", x.when(0), 98);
        x = Check.of("key size 35; hole 10");
        check.due("35 at STEP 100 only", x.when(0), Check.NONE);
        x.change(0, 5, 1);
        check.due("35 at STEP 96, from STEP 0 on", x.when(0), 98);
        x = Check.of("key size 35; hole 10");
        x.change(0, 5, 1);
        x.steps(1);
        x.rule(0, 10);
        check.due("at STEP 1 + 99, that is not yet", x.when(0), Check.NONE);
        // It goes at STEP 101, as the 102nd step from the begin.
        x = Check.of("key size 35; hole 10");
        x.steps(1);
        check.due("behind 101", x.when(0), Check.NONE);
        check.due("behind 101", x.first(), Check.NONE);
        check.due("behind 101", x.ahead(100, 0), 0);
        x.steps(1);
        check.due("behind 100", x.when(0), 100);
        check.due("behind 100", x.first(), 0);
        check.due("behind 100", x.ahead(100, 0), 1);
        x = new PocketHole();
        x.coin(6);
        Check.stepTo(x, 9899);
        check.due("STEP 9899", x.when(0), Check.NONE);
        check.promise(14, "falls");
        check.due("STEP 9899", x.falls(0), Check.NONE);
        check.promise(15, "first");
        check.due("STEP 9899", x.first(), Check.NONE);
        x.steps(1);
        check.due("STEP 9900", x.first(), Check.STATE);
        check.promise(14, "falls");
        check.due("STEP 9900", x.falls(0), Check.STATE);
        check.due("BEYOND is asked first", x.falls(1), Check.BEYOND);
        check.promise(13, "when");
        check.due("STEP 9900", x.when(0), Check.STATE);
        check.due("BEYOND is asked first", x.when(1), Check.BEYOND);
    }

    private static void falls() {
        check.promise(14, "falls");
        PocketHole x = Check.of(TWO);
        x.coin(0);
        x.put(2, 2);
        x.coin(0);
        x.put(3, 4);
        check.due("0", x.falls(0), 11);
        check.due("1 is alone then", x.falls(1), Check.NONE);
        check.due("it is there now", x.falls(2), 0);
        check.due("PAID", x.falls(3), Check.NONE);
        check.due("no such coin", x.falls(4), Check.BEYOND);
        check.due("no such coin", x.falls(-1), Check.BEYOND);
        x.steps(10);
        check.due("0", x.falls(0), 1);
        // A key of 34 goes at STEP 97, to cell 0: too late to fall within 100 steps, but for AT 0.
        x = Check.of("key size 34; ticket; gap 34 at 0");
        x.put(1, 1);
        check.due("it came in the 98th step, the ticket falls then", x.falls(1), 98);
        check.due("it is alone", x.falls(0), Check.NONE);
        // It is in cells 0, 2, 4, 6, 7 behind 98 to 102 steps, and falls in the next one.
        x = Check.of("key size 34; knotted size 40; gap 34 at 7");
        x.put(1, 1);
        x.change(1, 6, 7);
        x.steps(2);
        check.due("behind 101", x.falls(0), Check.NONE);
        x.steps(1);
        check.due("behind 100", x.falls(0), 100);
        check.due("thicker than GAP", x.falls(1), Check.NONE);
    }

    private static void first() {
        check.promise(15, "first");
        PocketHole x = Check.of("ticket; coin; coin; heavy size 30; coin left");
        check.due("of several the least", x.first(), 1);
        x.change(2, 5, 1);
        check.due("the first", x.first(), 2);
        x.put(4, 1);
        check.due("in the POCKET", x.first(), 2);
        x.sew();
        check.due("none", x.first(), Check.NONE);
        x = Check.of("coin size 30; key size 34; coin size 38");
        check.due("late", x.first(), 0);
        x = Check.of("key size 34");
        check.due("in the 98th step", x.first(), 0);
        x = Check.of("coin; coin");
        x.put(0, 2);
        x.put(1, 1);
        check.due("none is in the POCKET", x.first(), Check.NONE);
        x = new PocketHole();
        for (int c = 0; c < 10; c++) {
            x.coin(c < 9 ? 6 : 0);
        }
        check.due("the last of ten", x.first(), 9);
    }

    private static void cell() {
        check.promise(16, "cell");
        PocketHole x = Check.of(TWO);
        check.due("not yet", x.cell(0, 2), Check.NONE);
        check.due("cell 3", x.cell(0, 3), 0);
        check.due("cell 6", x.cell(0, 6), 3);
        check.due("cell 10", x.cell(0, 10), 7);
        check.due("fallen", x.cell(0, 11), Check.NONE);
        check.due("cell 100", x.cell(1, 100), 7);
        check.due("cell 0", x.cell(1, 0), Check.NONE);
        x.steps(5);
        check.due("cell 0", x.cell(1, 0), 2);
        check.due("n -1", x.cell(0, -1), Check.BEYOND);
        check.due("n 101", x.cell(0, 101), Check.BEYOND);
        check.due("no such coin", x.cell(2, 0), Check.BEYOND);
        check.due("no such coin", x.cell(-1, 0), Check.BEYOND);
        x.change(0, 6, 5);
        x.put(0, 0);
        x.change(0, 6, 5);
        check.due("in the POCKET", x.cell(0, 0), Check.NONE);
    }
}
