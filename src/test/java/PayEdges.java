/** Promises 24 to 27, sentence by sentence. */
final class PayEdges {
    private PayEdges() {
    }

    static void all(Edges e) {
        pay(e);
        small(e);
        paid(e);
        sums(e);
    }

    /** Ten coins in the POCKET with as many PENCE each as told. */
    private static PocketHole tenWith(int pence) {
        PocketHole x = Worlds.tenOf(0);
        for (int c = 0; c < 10; c++) {
            x.change(c, 3, pence);
        }
        return x;
    }

    /** 0 to 3 in the POCKET with 1, 2, 3 and 3 PENCE, 0 and 2 too thick; one with 6 in each other PLACE. */
    private static PocketHole purse() {
        PocketHole x = Worlds.of("coin size 11 pence 1;coin size 10 pence 2;coin size 11 pence 3;coin pence 3");
        for (int place = 1; place <= 4; place++) {
            x.put(x.coin(0), place);
        }
        return x;
    }

    private static void pay(Edges e) {
        e.sentence(24, "The set of fewest COINS in the POCKET with just p PENCE (0 to 9999) together;");
        e.still(PayEdges::purse, "none is enough: pay(0)", x -> x.pay(0), 0);
        e.still(PayEdges::purse, "pay(1)", x -> x.pay(1), 1);
        e.still(PayEdges::purse, "pay(5)", x -> x.pay(5), 2 + 4);
        e.still(PayEdges::purse, "pay(7)", x -> x.pay(7), 1 + 4 + 8);
        e.still(PayEdges::purse, "all: pay(9)", x -> x.pay(9), 15);
        e.due("without COINS: pay(0)", new PocketHole().pay(0), 0);
        e.due("none of 0 PENCE: pay(0)", tenWith(0).pay(0), 0);
        e.due("all of ten: pay(2400)", tenWith(240).pay(2400), 1023);
        e.sentence(24, "of several the least.");
        e.still(PayEdges::purse, "2 or 3: pay(3)", x -> x.pay(3), 4);
        e.still(PayEdges::purse, "0 and 2 or 0 and 3: pay(4)", x -> x.pay(4), 1 + 4);
        e.due("one of ten: pay(240)", tenWith(240).pay(240), 1);
        e.due("nine of ten: pay(2160)", tenWith(240).pay(2160), 511);
        e.sentence(24, "BEYOND.");
        e.beyond("pay(?)", 0, 9999, (x, v) -> x.pay(v));
        e.sentence(24, "NONE.");
        e.refused(PayEdges::purse, "pay(10)", x -> x.pay(10), Check.NONE);
        e.refused(PayEdges::purse, "pay(9999)", x -> x.pay(9999), Check.NONE);
        e.refused(PocketHole::new, "without COINS: pay(1)", x -> x.pay(1), Check.NONE);
        e.refused(() -> tenWith(240), "pay(2399)", x -> x.pay(2399), Check.NONE);
        e.refused(() -> tenWith(240), "pay(2401)", x -> x.pay(2401), Check.NONE);
        e.refused(() -> tenWith(0), "pay(1)", x -> x.pay(1), Check.NONE);
    }

    private static void small(Edges e) {
        e.sentence(25, "Of the sets of COINS in the POCKET with just p PENCE (0 to 9999) together "
            + "that with most COINS that are no THICKER than HOLE;");
        e.still(PayEdges::purse, "two thin ones: small(5)", x -> x.small(5), 2 + 8);
        e.still(PayEdges::purse, "all: small(9)", x -> x.small(9), 15);
        PocketHole x = purse();
        x.rule(0, 9);
        e.due("as thick as HOLE is thin, 10 is not: small(5)", x.small(5), 2 + 8);
        x.change(3, 1, 10);
        e.due("now none is thin: small(5)", x.small(5), 2 + 4);
        x.rule(0, 10);
        e.due("1 and 3 are thin: small(5)", x.small(5), 2 + 8);
        x.rule(0, 99);
        e.due("all are thin: small(3)", x.small(3), 1 + 2);
        e.due("1 is the thin one", Worlds.of("coin size 11;coin size 10").small(6), 2);
        e.due("0 is the thin one", Worlds.of("coin size 10;coin size 11").small(6), 1);
        e.due("those of 0 PENCE, too: small(0)", tenWith(0).small(0), 1023);
        e.due("all of ten: small(2400)", tenWith(240).small(2400), 1023);
        e.sentence(25, "of several the least.");
        e.still(PayEdges::purse, "of none: small(0)", y -> y.small(0), 0);
        e.still(PayEdges::purse, "0 and 1, or 3, one of each is thin: small(3)", y -> y.small(3), 1 + 2);
        e.due("without COINS: small(0)", new PocketHole().small(0), 0);
        e.due("one of ten: small(240)", tenWith(240).small(240), 1);
        x = purse();
        x.sew();
        e.due("none is thin: small(3)", x.small(3), 1 + 2);
        e.sentence(25, "BEYOND.");
        e.beyond("small(?)", 0, 9999, (y, v) -> y.small(v));
        e.sentence(25, "NONE.");
        e.refused(PayEdges::purse, "small(10)", y -> y.small(10), Check.NONE);
        e.refused(PayEdges::purse, "small(9999)", y -> y.small(9999), Check.NONE);
        e.refused(PocketHole::new, "without COINS: small(1)", y -> y.small(1), Check.NONE);
        e.refused(() -> tenWith(240), "small(2399)", y -> y.small(2399), Check.NONE);
        e.refused(() -> tenWith(240), "small(2401)", y -> y.small(2401), Check.NONE);
    }

    private static void paid(Edges e) {
        e.sentence(26, "COINS of a set in the POCKET are PAID (as by put()): PENCE of them.");
        PocketHole x = Worlds.rich();
        e.due("paid(40)", x.paid(8 + 32), 40);
        PocketHole same = Worlds.rich();
        same.put(3, 4);
        same.put(5, 4);
        e.alike("paid(40) and put()", x, same);
        e.still("none: paid(0)", y -> y.paid(0), 0);
        e.still(PocketHole::new, "without COINS: paid(0)", y -> y.paid(0), 0);
        x = tenWith(240);
        e.due("all of ten: paid(1023)", x.paid(1023), 2400);
        e.due("PAID", x.lie(4), 1023);
        e.sentence(26, "BEYOND: bits of none.");
        e.beyond("paid(?)", 0, 127, (y, v) -> y.paid(v));
        e.beyond(Worlds::full, "paid(?)", 0, 1023, (y, v) -> y.paid(v));
        e.beyond(PocketHole::new, "paid(?) without COINS", 0, 0, (y, v) -> y.paid(v));
        e.refused("a bit of none and one that is there: paid(8 + 128)", y -> y.paid(8 + 128), Check.BEYOND);
        e.sentence(26, "STATE: one isn't there.");
        for (int c : new int[] {0, 1, 2, 4, 6}) {
            e.refused("paid() of " + c, y -> y.paid(1 << c), Check.STATE);
            e.refused("paid() of 3, 5 and " + c, y -> y.paid(8 + 32 + (1 << c)), Check.STATE);
        }
        e.refused("paid() of all", y -> y.paid(127), Check.STATE);
    }

    private static void sums(Edges e) {
        e.sentence(27, "How many sums of PENCE can be told by sets of COINS in the POCKET (0, too).");
        e.still("0, 8, 32, 40: sums()", x -> x.sums(), 4);
        e.still(PocketHole::new, "0 alone: sums()", x -> x.sums(), 1);
        e.due("of 0 PENCE: sums()", tenWith(0).sums(), 1);
        e.due("0, 240, .., 2400: sums()", tenWith(240).sums(), 11);
        e.due("0 to 10: sums()", tenWith(1).sums(), 11);
        e.due("0 to 9: sums()", purse().sums(), 10);
        PocketHole x = tenWith(240);
        for (int c = 0; c < 8; c++) {
            x.change(c, 3, 1 << c);
        }
        e.due("0 to 735: sums()", x.sums(), 736);
        for (int place = 1; place <= 4; place++) {
            x.put(9, place);
            e.due("0 to 495: sums()", x.sums(), 496);
        }
        // Sums that a row of 64 bits parts: 63, 64, 65, 127, 128, ..
        x = Worlds.of("coin pence 63;coin pence 1;coin pence 64;coin pence 128");
        e.due("0, 1, 63, 64 and these with 64, 128, 192 more: sums()", x.sums(), 4 * 3 + 1);
    }
}
