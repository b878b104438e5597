/** Promises 28 to 34, sentence by sentence. */
final class LackEdges {
    private LackEdges() {
    }

    static void all(Edges e) {
        fits(e);
        size(e);
        began(e);
        boy(e);
        lining(e);
        back(e);
        richest(e);
    }

    /** By 3 steps: none GONE with 0 to 7, 0 with 8 to 19, 0 and 1 with 20 to 79, all three with 80 to 99. */
    private static PocketHole three() {
        return Worlds.of("coin;coin size 20;wrapped size 40;coin left");
    }

    /** At STEP 2: the KEY is 30 wide at STEP 60, so it goes in the 60th step, with 15 or more. */
    private static PocketHole key() {
        PocketHole x = Worlds.of("key size 30");
        x.steps(2);
        return x;
    }

    private static void fits(Edges e) {
        e.sentence(28, "HOLES (0 to 99) with which, now, just a set of COINS would be GONE n STEPS (1 to 60) AHEAD: how many.");
        e.still(LackEdges::three, "not at the hole by 1: fits(0, 1)", x -> x.fits(0, 1), 100);
        e.still(LackEdges::three, "fits(1, 1)", x -> x.fits(1, 1), 0);
        e.still(LackEdges::three, "fits(0, 3)", x -> x.fits(0, 3), 8);
        e.still(LackEdges::three, "fits(1, 3)", x -> x.fits(1, 3), 12);
        e.still(LackEdges::three, "fits(3, 3)", x -> x.fits(3, 3), 60);
        e.still(LackEdges::three, "fits(7, 60)", x -> x.fits(7, 60), 20);
        e.still(LackEdges::three, "1 without 0: fits(2, 3)", x -> x.fits(2, 3), 0);
        e.still(LackEdges::three, "one in LEFT isn't GONE: fits(8, 3)", x -> x.fits(8, 3), 0);
        e.still(LackEdges::key, "fits(1, 59)", x -> x.fits(1, 59), 84);
        e.still(LackEdges::key, "fits(1, 60)", x -> x.fits(1, 60), 85);
        e.due("with all but 0", Worlds.of("coin size 1").fits(1, 3), 99);
        e.due("with 0 alone", Worlds.of("coin size 1").fits(0, 3), 1);
        e.due("with 83 to 99", Worlds.of("knotted size 40").fits(1, 3), 17);
        e.due("without COINS", new PocketHole().fits(0, 60), 100);
        e.due("all of ten", Worlds.tenOf(0).fits(1023, 3), 92);
        e.sentence(28, "BEYOND: bits of none, too.");
        e.beyond(LackEdges::three, "fits(0, ?)", 1, 60, (x, v) -> x.fits(0, v));
        e.beyond(LackEdges::three, "fits(?, 3)", 0, 15, (x, v) -> x.fits(v, 3));
        e.beyond(Worlds::full, "fits(?, 3)", 0, 1023, (x, v) -> x.fits(v, 3));
        e.beyond(PocketHole::new, "fits(?, 3) without COINS", 0, 0, (x, v) -> x.fits(v, 3));
        e.sentence(28, "STATE: STEP would be above 9999.");
        e.refused(() -> Worlds.rich(9999), "fits(0, 1) at 9999", x -> x.fits(0, 1), Check.STATE);
        e.refused(() -> Worlds.rich(9940), "fits(0, 60) at 9940", x -> x.fits(0, 60), Check.STATE);
        e.still(() -> Worlds.rich(9998), "fits(0, 1) at 9998", x -> x.fits(0, 1), 40);
        e.due("fits(0, 60) at 9939", Worlds.bare(9939).fits(0, 60), 100);
    }

    private static void size(Edges e) {
        e.sentence(29, "The least of them.");
        e.still(LackEdges::three, "size(0, 1)", x -> x.size(0, 1), 0);
        e.still(LackEdges::three, "size(0, 3)", x -> x.size(0, 3), 0);
        e.still(LackEdges::three, "size(1, 3)", x -> x.size(1, 3), 8);
        e.still(LackEdges::three, "size(3, 3)", x -> x.size(3, 3), 20);
        e.still(LackEdges::three, "size(7, 60)", x -> x.size(7, 60), 80);
        e.still(LackEdges::key, "size(1, 59)", x -> x.size(1, 59), 16);
        e.still(LackEdges::key, "size(1, 60)", x -> x.size(1, 60), 15);
        e.due("all but 0", Worlds.of("coin size 1").size(1, 3), 1);
        e.due("83", Worlds.of("knotted size 40").size(1, 3), 83);
        e.due("without COINS", new PocketHole().size(0, 60), 0);
        e.due("all of ten", Worlds.tenOf(0).size(1023, 3), 8);
        e.sentence(29, "BEYOND.");
        e.beyond(LackEdges::three, "size(0, ?)", 1, 60, (x, v) -> x.size(0, v));
        e.beyond(LackEdges::three, "size(?, 3)", 0, 15, (x, v) -> x.size(v, 3));
        e.beyond(Worlds::full, "size(?, 3)", 0, 1023, (x, v) -> x.size(v, 3));
        e.beyond(PocketHole::new, "size(?, 3) without COINS", 0, 0, (x, v) -> x.size(v, 3));
        e.sentence(29, "STATE: STEP would be above 9999.");
        e.refused(() -> Worlds.rich(9999), "size(0, 1) at 9999", x -> x.size(0, 1), Check.STATE);
        e.refused(() -> Worlds.rich(9940), "size(0, 60) at 9940", x -> x.size(0, 60), Check.STATE);
        e.still(() -> Worlds.rich(9998), "size(8, 1) at 9998", x -> x.size(8, 1), 40);
        e.due("size(0, 60) at 9939", Worlds.bare(9939).size(0, 60), 0);
        e.sentence(29, "NONE.");
        e.refused(LackEdges::three, "1 without 0: size(2, 3)", x -> x.size(2, 3), Check.NONE);
        e.refused(LackEdges::three, "one in LEFT isn't GONE: size(8, 3)", x -> x.size(8, 3), Check.NONE);
        e.refused(LackEdges::three, "not at the hole by 2: size(1, 2)", x -> x.size(1, 2), Check.NONE);
    }

    private static void began(Edges e) {
        e.sentence(30, "STEPS (1 to 30), as a set (bit n), AHEAD of which, HOLE as it is now, just a set of COINS is GONE.");
        e.still(LackEdges::three, "1 and 2: began(0)", x -> x.began(0), 2 + 4);
        e.still(LackEdges::three, "3 to 30: began(1)", x -> x.began(1), 0x7ffffff8);
        e.still(LackEdges::three, "never: began(3)", x -> x.began(3), 0);
        e.still(LackEdges::three, "one in LEFT isn't GONE: began(8)", x -> x.began(8), 0);
        e.still("1 to 30: began(0)", x -> x.began(0), 0x7ffffffe);
        e.still(PocketHole::new, "1 to 30 without COINS: began(0)", x -> x.began(0), 0x7ffffffe);
        PocketHole x = three();
        x.change(0, 5, 2);
        e.due("from 1 on: began(1)", x.began(1), 0x7ffffffe);
        e.due("not 0: began(0)", x.began(0), 0);
        x = Worlds.of("key size 17");
        e.due("30 alone: began(1)", x.began(1), 1 << 30);
        e.due("1 to 29: began(0)", x.began(0), 0x3ffffffe);
        e.due("31 isn't asked: began(1)", Worlds.of("key size 18").began(1), 0);
        e.due("all of ten: began(1023)", Worlds.tenOf(0).began(1023), 0x7ffffff8);
        e.sentence(30, "BEYOND: bits of none.");
        e.beyond("began(?)", 0, 127, (y, v) -> y.began(v));
        e.beyond(Worlds::full, "began(?)", 0, 1023, (y, v) -> y.began(v));
        e.beyond(PocketHole::new, "began(?) without COINS", 0, 0, (y, v) -> y.began(v));
        e.sentence(30, "STATE: STEP is above 9969.");
        e.refused(() -> Worlds.rich(9970), "began(0) at 9970", y -> y.began(0), Check.STATE);
        e.refused(() -> Worlds.rich(9999), "began(0) at 9999", y -> y.began(0), Check.STATE);
        e.refused(() -> Worlds.bare(9970), "began(0) at 9970 without COINS", y -> y.began(0), Check.STATE);
        e.still(() -> Worlds.rich(9969), "began(0) at 9969", y -> y.began(0), 0x7ffffffe);
    }

    private static void boy(Edges e) {
        e.sentence(31, "A hole or the boy: 1, if fits() of a set of COINS is above 0;");
        for (int set : new int[] {0, 1, 3, 7}) {
            e.still(LackEdges::three, "boy(" + set + ", 3)", x -> x.boy(set, 3), 1);
        }
        e.still(LackEdges::three, "boy(0, 1)", x -> x.boy(0, 1), 1);
        e.still(LackEdges::three, "boy(7, 60)", x -> x.boy(7, 60), 1);
        e.still(PocketHole::new, "without COINS: boy(0, 60)", x -> x.boy(0, 60), 1);
        e.still(LackEdges::key, "boy(1, 60)", x -> x.boy(1, 60), 1);
        e.due("with HOLE 0 alone", Worlds.of("coin size 1").boy(0, 3), 1);
        e.sentence(31, "2, if not, but that of one with one COIN more or less;");
        e.still(LackEdges::three, "1 more: boy(2, 3)", x -> x.boy(2, 3), 2);
        e.still(LackEdges::three, "1 more: boy(6, 3)", x -> x.boy(6, 3), 2);
        e.still(LackEdges::three, "1 less: boy(5, 3)", x -> x.boy(5, 3), 2);
        e.still(LackEdges::three, "1 less, in LEFT: boy(15, 3)", x -> x.boy(15, 3), 2);
        e.still(LackEdges::three, "1 less, by 1 step: boy(4, 1)", x -> x.boy(4, 1), 2);
        e.due("1 less, of HOLE 0 alone", Worlds.of("coin size 1;coin left").boy(2, 3), 2);
        // The KEY opens a HOLE of 0 in the 5th step, so that 1 is GONE with any.
        e.due("1 more, of HOLE 0, too", Worlds.of("key size 40;coin size 1").boy(0, 5), 2);
        e.sentence(31, "else 0.");
        e.still(LackEdges::three, "2 less: boy(3, 1)", x -> x.boy(3, 1), 0);
        e.still(LackEdges::three, "2 less: boy(12, 3)", x -> x.boy(12, 3), 0);
        e.still(LackEdges::three, "1 more and 1 less: boy(10, 3)", x -> x.boy(10, 3), 0);
        e.sentence(31, "BEYOND, STATE as there.");
        e.beyond(LackEdges::three, "boy(0, ?)", 1, 60, (x, v) -> x.boy(0, v));
        e.beyond(LackEdges::three, "boy(?, 3)", 0, 15, (x, v) -> x.boy(v, 3));
        e.beyond(Worlds::full, "boy(?, 3)", 0, 1023, (x, v) -> x.boy(v, 3));
        e.beyond(PocketHole::new, "boy(?, 3) without COINS", 0, 0, (x, v) -> x.boy(v, 3));
        e.refused(() -> Worlds.rich(9999), "boy(0, 1) at 9999", x -> x.boy(0, 1), Check.STATE);
        e.refused(() -> Worlds.rich(9940), "boy(0, 60) at 9940", x -> x.boy(0, 60), Check.STATE);
        e.still(() -> Worlds.rich(9998), "boy(0, 1) at 9998", x -> x.boy(0, 1), 1);
        e.due("boy(0, 60) at 9939", Worlds.bare(9939).boy(0, 60), 1);
    }

    private static PocketHole heaviest() {
        PocketHole x = Worlds.tenOf(3);
        for (int c = 0; c < 10; c++) {
            x.change(c, 2, 50);
        }
        return x;
    }

    private static void lining(Edges e) {
        e.sentence(32, "Sets of COINS that can be in the LINING, of those in the POCKET, LINING and LEFT now, "
            + "with just w WEIGHT (0 to 500) together: how many.");
        e.still("none of them: lining(0)", x -> x.lining(0), 1);
        e.still("3, 4 or 5: lining(5)", x -> x.lining(5), 3);
        e.still("two of these: lining(10)", x -> x.lining(10), 3);
        e.still("1 with 33: lining(33)", x -> x.lining(33), 1);
        e.still("all: lining(48)", x -> x.lining(48), 1);
        e.still("lining(500)", x -> x.lining(500), 0);
        e.still(PocketHole::new, "without COINS: lining(0)", x -> x.lining(0), 1);
        e.still(PocketHole::new, "without COINS: lining(1)", x -> x.lining(1), 0);
        e.still(LackEdges::heaviest, "all of ten: lining(500)", x -> x.lining(500), 1);
        e.still(LackEdges::heaviest, "nine of ten: lining(450)", x -> x.lining(450), 10);
        e.still(LackEdges::heaviest, "lining(499)", x -> x.lining(499), 0);
        int[] due = {1, 1, 0, 1, 0};
        for (int place = 0; place <= 4; place++) {
            PocketHole x = Worlds.of("coin");
            x.put(0, place);
            e.due("in PLACE " + place + ": lining(5)", x.lining(5), due[place]);
            e.due("in PLACE " + place + ": lining(0)", x.lining(0), 1);
        }
        e.sentence(32, "BEYOND.");
        e.beyond("lining(?)", 0, 500, (x, v) -> x.lining(v));
    }

    /** 0 fell at STEP 10; so many steps have gone since. */
    private static PocketHole fallen(int since) {
        PocketHole x = Worlds.of("coin;coin;gap 8 at 7");
        x.steps(11);
        x.put(1, 3);
        for (int left = since; left > 0; left -= 100) {
            x.steps(Math.min(left, 100));
        }
        return x;
    }

    private static void back(Edges e) {
        e.sentence(33, "Searching back: the way has CELLS of m STEPS (1 to 100) each, 0 that of the latest m: "
            + "the one in which a COIN came to the GROUND.");
        e.still(() -> fallen(0), "in the latest step: back(0, 1)", x -> x.back(0, 1), 0);
        e.still(() -> fallen(1), "back(0, 1)", x -> x.back(0, 1), 1);
        e.still(() -> fallen(1), "back(0, 2)", x -> x.back(0, 2), 0);
        e.still(() -> fallen(2), "back(0, 2)", x -> x.back(0, 2), 1);
        e.still(() -> fallen(99), "back(0, 100)", x -> x.back(0, 100), 0);
        e.still(() -> fallen(100), "back(0, 100)", x -> x.back(0, 100), 1);
        e.still(() -> fallen(100), "more than 29: back(0, 1)", x -> x.back(0, 1), 100);
        e.still(() -> fallen(9988), "as far as can be: back(0, 1)", x -> x.back(0, 1), 9988);
        e.sentence(33, "BEYOND.");
        e.beyond("back(?, 1)", 0, 6, (x, v) -> x.back(v, 1));
        e.beyond("back(0, ?)", 1, 100, (x, v) -> x.back(0, v));
        e.sentence(33, "STATE: it isn't there by a STEP.");
        for (int c : new int[] {1, 3, 4, 5, 6}) {
            e.refused("back(" + c + ", 1)", x -> x.back(c, 1), Check.STATE);
        }
        e.refused(LackEdges::putThere, "put there: back(0, 1)", x -> x.back(0, 1), Check.STATE);
        e.refused(LackEdges::putThere, "put there anew: back(2, 1)", x -> x.back(2, 1), Check.STATE);
    }

    private static PocketHole putThere() {
        PocketHole x = Worlds.rich();
        x.put(0, 2);
        x.put(2, 0);
        x.put(2, 2);
        return x;
    }

    private static void richest(Edges e) {
        e.sentence(34, "Of the CELLS (0 to 29) in which so COINS fell that lie on the GROUND that with most PENCE;");
        e.still(() -> fallen(0), "richest(1)", x -> x.richest(1), 0);
        e.still(() -> fallen(29), "the last: richest(1)", x -> x.richest(1), 29);
        e.still(() -> fallen(2999), "the last: richest(100)", x -> x.richest(100), 29);
        e.still(() -> fallen(2999), "richest(100)", x -> x.richest(100), 29);
        PocketHole x = fallen(29);
        x.change(0, 3, 0);
        e.due("of 0 PENCE: richest(1)", x.richest(1), 29);
        e.still(LackEdges::inTurns, "5 and 6 are more than 10: richest(1)", y -> y.richest(1), 2);
        e.still(LackEdges::inTurns, "all are in one: richest(3)", y -> y.richest(3), 0);
        e.sentence(34, "of several the least.");
        x = inTurns();
        x.change(3, 3, 11);
        e.due("11 and 11: richest(1)", x.richest(1), 1);
        x.steps(28);
        e.due("the other one is CELL 30: richest(1)", x.richest(1), 29);
        e.sentence(34, "BEYOND.");
        e.beyond("richest(?)", 1, 100, (y, v) -> y.richest(v));
        e.sentence(34, "NONE: there is none.");
        e.refused(PocketHole::new, "richest(1) without COINS", y -> y.richest(1), Check.NONE);
        e.refused(() -> fallen(30), "it is in CELL 30: richest(1)", y -> y.richest(1), Check.NONE);
        e.refused(() -> fallen(3000), "it is in CELL 30: richest(100)", y -> y.richest(100), Check.NONE);
        e.refused(() -> fallen(9988), "as far as can be: richest(100)", y -> y.richest(100), Check.NONE);
        e.refused(LackEdges::putThere, "put there: richest(100)", y -> y.richest(100), Check.NONE);
    }

    /** By turns 0 and 1 with 5 and 6 PENCE fall, then 3 with 10, then no more; 4 was put there, 2 lies in the hem. */
    private static PocketHole inTurns() {
        PocketHole x = Worlds.of("coin pence 5;coin pence 6;coin pence 99;coin pence 10;coin pence 200;gap 8 at 7");
        x.put(4, 2);
        x.put(3, 3);
        for (int c = 0; c < 3; c++) {
            x.put(c, 1);
            x.change(c, 6, 7);
        }
        x.change(2, 1, 9);
        x.steps(1);
        x.put(3, 1);
        x.change(3, 6, 7);
        x.steps(2);
        return x;
    }
}
