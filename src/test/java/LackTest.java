/** Promises 28 to 34. */
final class LackTest {
    private static final Check check = new Check();

    public static void main(String[] args) {
        fits();
        size();
        began();
        boy();
        boyOfOneHole();
        late();
        lining();
        back();
        richest();
        check.end();
    }

    /** By 3 steps: none with 0 to 7, 0 with 8 to 19, 0 and 1 with 20 to 79, all with 80 to 99. */
    private static PocketHole three() {
        PocketHole x = Check.of("coin; coin size 20; wrapped size 40; coin left");
        return x;
    }

    private static void fits() {
        check.promise(28, "fits");
        PocketHole x = three();
        check.due("none", x.fits(0, 3), 8);
        check.due("0", x.fits(1, 3), 12);
        check.due("0 and 1", x.fits(3, 3), 60);
        check.due("all", x.fits(7, 3), 20);
        check.due("1 without 0", x.fits(2, 3), 0);
        check.due("one in LEFT isn't GONE", x.fits(9, 3), 0);
        check.due("none by 2 steps", x.fits(0, 2), 100);
        check.due("none by 1 step", x.fits(0, 1), 100);
        check.due("n 60", x.fits(1, 60), 12);
        check.due("HOLE stays", x.now(1), 10);
        check.due("n 0", x.fits(1, 0), Check.BEYOND);
        check.due("n 61", x.fits(1, 61), Check.BEYOND);
        check.due("bits of none", x.fits(16, 3), Check.BEYOND);
        check.due("bits of none", x.fits(-1, 3), Check.BEYOND);
        // A key of 30 goes if HOLE is 30 at STEP 56 or ahead of it: from 30 - 14 on, by 58 steps.
        x = Check.of("key size 30");
        check.due("by 58 steps", x.fits(1, 58), 84);
        check.due("by 57 steps", x.fits(1, 57), 83);
        check.due("by 60 steps", x.fits(1, 60), 84);
        check.due("by 2 steps", x.fits(1, 2), 70);
        x.steps(2);
        check.due("at STEP 2", x.fits(1, 3), 70);
        check.due("at STEP 2", x.fits(1, 4), 71);
    }

    private static void size() {
        check.promise(29, "size");
        PocketHole x = three();
        check.due("none", x.size(0, 3), 0);
        check.due("0", x.size(1, 3), 8);
        check.due("0 and 1", x.size(3, 3), 20);
        check.due("all", x.size(7, 60), 80);
        check.due("1 without 0", x.size(2, 3), Check.NONE);
        check.due("0 by 2 steps", x.size(1, 2), Check.NONE);
        check.due("none by 1 step", x.size(0, 1), 0);
        check.due("n 0", x.size(1, 0), Check.BEYOND);
        check.due("n 61", x.size(1, 61), Check.BEYOND);
        check.due("bits of none", x.size(16, 3), Check.BEYOND);
        check.due("bits of none", x.size(-1, 3), Check.BEYOND);
        x = Check.of("heavy size 9; coin size 12");
        check.due("10, and 2 that 0 wears", x.size(3, 3), 10);
        check.due("9, and 2 that 0 wears", x.size(1, 3), 9);
    }

    private static void began() {
        check.promise(30, "began");
        PocketHole x = Check.of("coin; heavy; coin left");
        check.due("none, by 1 step", x.began(0), 1 << 1);
        check.due("1, by 2 steps", x.began(2), 1 << 2);
        check.due("both, by 3 to 30 steps", x.began(3), 0x7ffffff8);
        check.due("0 alone", x.began(1), 0);
        check.due("not in the POCKET now", x.began(7), 0);
        check.due("bits of none", x.began(8), Check.BEYOND);
        check.due("bits of none", x.began(-1), Check.BEYOND);
        x.sew();
        check.due("with the HOLE that is now", x.began(0), 0x7ffffffe);
        // A key of 17 goes in the 30th step: 17 at STEP 28.
        x = Check.of("key size 17");
        check.due("by 30 steps", x.began(1), 1 << 30);
        check.due("by 1 to 29 steps", x.began(0), 0x3ffffffe);
        check.due("nothing changed", x.now(0), 0);
    }

    private static void boy() {
        check.promise(31, "boy");
        PocketHole x = three();
        check.due("a hole", x.boy(0, 3), 1);
        check.due("a hole", x.boy(7, 3), 1);
        check.due("one more", x.boy(2, 3), 2);
        check.due("one less", x.boy(4, 3), 2);
        check.due("one less, which isn't in the POCKET", x.boy(11, 3), 2);
        check.due("two less", x.boy(12, 3), 0);
        check.due("one less", x.boy(1, 2), 2);
        check.due("two less", x.boy(3, 2), 0);
        check.due("n 0", x.boy(0, 0), Check.BEYOND);
        check.due("n 61", x.boy(0, 61), Check.BEYOND);
        check.due("n 60", x.boy(0, 60), 1);
        check.due("n 1", x.boy(0, 1), 1);
        check.due("bits of none", x.boy(16, 3), Check.BEYOND);
        check.due("bits of none", x.boy(-1, 3), Check.BEYOND);
    }

    private static void boyOfOneHole() {
        check.promise(31, "boy, one hole alone");
        PocketHole x = Check.of("coin size 1");
        check.due("none with HOLE 0", x.boy(0, 3), 1);
        check.due("fits", x.fits(0, 3), 1);
        x = Check.of("coin size 39; coin size 40; coin size 40");
        check.due("0 alone with HOLE 39, then 40 by what 0 wears", x.boy(1, 3), 2);
        check.due("fits", x.fits(1, 3), 0);
        x = Check.of("coin size 40; wrapped size 20");
        check.due("1 goes ahead of 0 by nothing", x.fits(2, 3), 0);
        check.due("both", x.boy(3, 3), 1);
    }

    private static void late() {
        PocketHole x = new PocketHole();
        x.coin(6);
        Check.stepTo(x, 9969);
        check.promise(30, "began");
        check.due("STEP 9969", x.began(0), 0x7ffffffe);
        x.steps(1);
        check.due("STEP 9970", x.began(0), Check.STATE);
        check.due("BEYOND is asked first", x.began(2), Check.BEYOND);
        check.promise(28, "fits");
        check.due("STEP 9999", x.fits(0, 29), 100);
        check.due("STEP 10000", x.fits(0, 30), Check.STATE);
        check.due("BEYOND is asked first", x.fits(2, 30), Check.BEYOND);
        check.promise(29, "size");
        check.due("STEP 9999", x.size(0, 29), 0);
        check.due("STEP 10000", x.size(0, 30), Check.STATE);
        check.due("STATE is asked ahead of NONE", x.size(1, 30), Check.STATE);
        check.promise(31, "boy");
        check.due("STEP 9999", x.boy(0, 29), 1);
        check.due("STEP 10000", x.boy(0, 30), Check.STATE);
        check.due("BEYOND is asked first", x.boy(0, 61), Check.BEYOND);
    }

    private static void lining() {
        check.promise(32, "lining");
        PocketHole x = Check.of("coin weight 1; coin weight 2; coin weight 3 left; coin weight 3; coin weight 3");
        check.due("lining 0", x.lining(0), 1);
        check.due("3 in four ways", x.lining(3), 4);
        check.due("6: 1 2 and a 3, or two of them", x.lining(6), 6);
        check.due("12", x.lining(12), 1);
        check.due("13", x.lining(13), 0);
        x.put(0, 1);
        check.due("LINING counts", x.lining(3), 4);
        x.put(3, 2);
        check.due("GROUND doesn't", x.lining(3), 3);
        x.put(4, 4);
        check.due("PAID doesn't", x.lining(3), 2);
        check.due("w -1", x.lining(-1), Check.BEYOND);
        check.due("w 501", x.lining(501), Check.BEYOND);
        x = new PocketHole();
        check.due("no coins", x.lining(0), 1);
        for (int c = 0; c < 10; c++) {
            x.coin(c % 7);
            x.change(c, 2, 50);
        }
        check.due("w 500", x.lining(500), 1);
        check.due("w 250", x.lining(250), 252);
    }

    private static void back() {
        check.promise(33, "back");
        PocketHole x = Check.of("coin; coin; gap 8 at 7");
        check.due("not yet", x.back(0, 1), Check.STATE);
        x.steps(11);
        check.due("in the latest step", x.back(0, 1), 0);
        check.due("1 lies in the LINING", x.back(1, 1), Check.STATE);
        x.steps(5);
        check.due("m 1", x.back(0, 1), 5);
        check.due("m 2", x.back(0, 2), 2);
        check.due("m 5", x.back(0, 5), 1);
        check.due("m 6", x.back(0, 6), 0);
        check.due("m 100", x.back(0, 100), 0);
        check.due("m 0", x.back(0, 0), Check.BEYOND);
        check.due("m 101", x.back(0, 101), Check.BEYOND);
        check.due("no such coin", x.back(2, 1), Check.BEYOND);
        check.due("no such coin", x.back(-1, 1), Check.BEYOND);
        check.due("BEYOND is asked first", x.back(1, 0), Check.BEYOND);
        x.put(0, 2);
        check.due("put there, not by a STEP", x.back(0, 1), Check.STATE);
    }

    private static void richest() {
        check.promise(34, "richest");
        PocketHole x = Check.of("coin pence 5; coin pence 3; coin pence 4; coin pence 0; coin pence 240; gap 8 at 7");
        x.put(4, 2);
        check.due("none fell by a STEP", x.richest(1), Check.NONE);
        // In the 11th step 0, 1, 2 fall, 3 stays.
        x.steps(11);
        check.due("the latest", x.richest(1), 0);
        x.put(2, 1);
        x.change(2, 6, 7);
        x.steps(1);
        check.due("8 earlier on are more than 4", x.richest(1), 1);
        check.due("both are one", x.richest(2), 0);
        x.change(2, 3, 8);
        check.due("of two the least", x.richest(1), 0);
        x.put(2, 2);
        check.due("by hand it isn't so", x.richest(1), 1);
        x.steps(29);
        check.due("CELL 30 doesn't count", x.richest(1), Check.NONE);
        check.due("CELL 15", x.richest(2), 15);
        check.due("m 0", x.richest(0), Check.BEYOND);
        check.due("m 101", x.richest(101), Check.BEYOND);
        check.due("m 100", x.richest(100), 0);
        x = Check.of("coin pence 0; coin pence 0; gap 8 at 7");
        x.steps(13);
        check.due("one of 0 pence fell there", x.richest(1), 2);
        x.steps(27);
        check.due("CELL 29", x.richest(1), 29);
        x.steps(1);
        check.due("CELL 30", x.richest(1), Check.NONE);
    }
}
