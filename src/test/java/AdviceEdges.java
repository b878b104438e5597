/** Promises 17 to 23, sentence by sentence. */
final class AdviceEdges {
    private AdviceEdges() {
    }

    static void all(Edges e) {
        bears(e);
        latest(e);
        carry(e);
        carried(e);
        kindFor(e);
        worst(e);
        hem(e);
    }

    /** Nine of the ten fall in the 11th step. */
    private static PocketHole nineFall() {
        PocketHole x = Worlds.tenOf(0);
        x.rule(1, 8);
        for (int c = 0; c < 10; c++) {
            x.change(c, 3, 240);
        }
        return x;
    }

    /** The KEY widens the HOLE of 50, or of 0, in the 5th step: at STEP 4. */
    private static PocketHole withKey() {
        return Worlds.of("key size 40;coin;coin size 1;knotted size 40;hole 50");
    }

    private static void bears(Edges e) {
        e.sentence(17, "The greatest HOLE (0 to 99) now with which a COIN is in the POCKET n STEPS (1 to 100) AHEAD.");
        e.still(AdviceEdges::withKey, "not at the hole by 1: bears(1, 1)", x -> x.bears(1, 1), 99);
        e.still(AdviceEdges::withKey, "bears(1, 2)", x -> x.bears(1, 2), 99);
        e.still(AdviceEdges::withKey, "bears(1, 3)", x -> x.bears(1, 3), 7);
        e.still(AdviceEdges::withKey, "the least: bears(2, 4)", x -> x.bears(2, 4), 0);
        e.due("n 100: 82, thicker than any other", Worlds.of("knotted size 40").bears(0, 100), 82);
        e.due("a ticket", Worlds.tenOf(6).bears(9, 100), 99);
        // At STEP 4, 8, .., 96, 100: HOLE is 10 more by 41 steps, 24 by 97 to 100, 25 by 101.
        PocketHole key = Worlds.of("key size 40;coin size 40");
        e.due("bears(1, 100)", key.bears(1, 100), 15);
        key.steps(1);
        e.due("bears(1, 99)", key.bears(1, 99), 15);
        e.due("bears(1, 100), at STEP 1", key.bears(1, 100), 14);
        e.sentence(17, "BEYOND.");
        e.beyond("bears(?, 1)", 0, 6, (x, v) -> x.bears(v, 1));
        e.beyond("bears(3, ?)", 1, 100, (x, v) -> x.bears(3, v));
        e.sentence(17, "STATE: it isn't there now, or STEP would be above 9999.");
        for (int c : new int[] {0, 1, 2, 4, 6}) {
            e.refused("bears(" + c + ", 1)", x -> x.bears(c, 1), Check.STATE);
        }
        e.refused(() -> Worlds.rich(9999), "bears(3, 1) at 9999", x -> x.bears(3, 1), Check.STATE);
        e.refused(() -> Worlds.rich(9900), "bears(3, 100) at 9900", x -> x.bears(3, 100), Check.STATE);
        // With 57 or more the KEY of 40 goes ahead of it and wears 3.
        e.still(() -> Worlds.rich(9998), "bears(5, 1) at 9998", x -> x.bears(5, 1), 56);
        e.sentence(17, "NONE.");
        e.refused(AdviceEdges::withKey, "it goes with 0, too: bears(2, 5)", x -> x.bears(2, 5), Check.NONE);
        e.refused(AdviceEdges::withKey, "bears(2, 100)", x -> x.bears(2, 100), Check.NONE);
    }

    private static void latest(Edges e) {
        e.sentence(18, "Behind how many STEPS (0 to n) AHEAD HOLE should be sewn at the latest, "
            + "so that LOST behind n STEPS (1 to 100) have p PENCE (0 to 9999) or less together.");
        e.still(AdviceEdges::nineFall, "none is lost by then: latest(1, 0)", x -> x.latest(1, 0), 1);
        e.still(AdviceEdges::nineFall, "latest(10, 0)", x -> x.latest(10, 0), 10);
        e.still(AdviceEdges::nineFall, "ahead of the 3rd: latest(11, 0)", x -> x.latest(11, 0), 2);
        e.still(AdviceEdges::nineFall, "a penny too much: latest(100, 2159)", x -> x.latest(100, 2159), 2);
        e.still(AdviceEdges::nineFall, "just so much: latest(100, 2160)", x -> x.latest(100, 2160), 100);
        e.still(AdviceEdges::nineFall, "latest(100, 9999)", x -> x.latest(100, 9999), 100);
        PocketHole x = nineFall();
        x.steps(2);
        e.due("now: latest(9, 0)", x.latest(9, 0), 0);
        e.due("without COINS", new PocketHole().latest(100, 0), 100);
        // The KEY makes it 1 in the 5th step, 2 in the 9th; they go in that one, and the next one loses one of them.
        e.due("sewn behind 8 it is 1 in the 9th", opensAgain(2).latest(10, 5), 8);
        e.due("sewn behind 9 it is too late", opensAgain(2).latest(9, 5), 9);
        e.due("1 is enough for thinner ones", opensAgain(1).latest(5, 5), 5);
        e.sentence(18, "BEYOND.");
        e.beyond("latest(?, 0)", 1, 100, (y, v) -> y.latest(v, 0));
        e.beyond("latest(1, ?)", 0, 9999, (y, v) -> y.latest(1, v));
        e.sentence(18, "STATE: STEP would be above 9999.");
        e.refused(() -> Worlds.rich(9999), "latest(1, 0) at 9999", y -> y.latest(1, 0), Check.STATE);
        e.refused(() -> Worlds.rich(9900), "latest(100, 9999) at 9900", y -> y.latest(100, 9999), Check.STATE);
        e.still(() -> Worlds.rich(9998), "latest(1, 0) at 9998", y -> y.latest(1, 0), 1);
        e.due("latest(100, 0) at 9899", Worlds.bare(9899).latest(100, 0), 100);
        e.sentence(18, "NONE.");
        e.refused(AdviceEdges::inTheHem, "even if it is sewn now: latest(1, 0)", y -> y.latest(1, 0), Check.NONE);
        e.refused(AdviceEdges::inTheHem, "latest(100, 5)", y -> y.latest(100, 5), Check.NONE);
        e.still(AdviceEdges::inTheHem, "so much may be lost: latest(1, 6)", y -> y.latest(1, 6), 1);
        e.refused(() -> opensAgain(1), "the KEY opens it again: latest(6, 5)", y -> y.latest(6, 5), Check.NONE);
    }

    private static PocketHole opensAgain(int size) {
        return Worlds.of("key size 40;coin size " + size + ";coin size " + size + ";gap 2 at 0;hole 0");
    }

    /** 0 falls in the next step, whatever is done about HOLE. */
    private static PocketHole inTheHem() {
        PocketHole x = Worlds.of("coin;coin;gap 8 at 0");
        x.put(0, 1);
        x.put(1, 1);
        return x;
    }

    /** 1 goes in the 3rd step, 0 and 2 stay; 3 and 4 are in LEFT, 5 to 8 elsewhere; 4 would go. */
    private static PocketHole toCarry() {
        PocketHole x = Worlds.of("coin size 11 pence 1;coin pence 2;coin size 11 pence 4");
        Worlds.feed(x, "coin size 40 pence 8 left;coin pence 16 left");
        x.text();
        for (int place : new int[] {1, 2, 4}) {
            x.put(x.coin(0), place);
        }
        return x;
    }

    private static void carry(Edges e) {
        e.sentence(19, "The set of COINS in POCKET and LEFT that should be in the POCKET now, NEAR 0 (others of these in LEFT), "
            + "so that none of it is GONE n STEPS (1 to 100) AHEAD, with most PENCE together;");
        e.still(AdviceEdges::toCarry, "all: carry(1)", x -> x.carry(1), 31);
        e.still(AdviceEdges::toCarry, "carry(2)", x -> x.carry(2), 31);
        e.still(AdviceEdges::toCarry, "carry(3)", x -> x.carry(3), 13);
        e.still(AdviceEdges::toCarry, "carry(100)", x -> x.carry(100), 13);
        PocketHole x = toCarry();
        x.change(1, 5, 9);
        e.due("NEAR is 0 then: carry(2)", x.carry(2), 31);
        x.sew();
        e.due("carry(100), sewn", x.carry(100), 31);
        e.due("without COINS: carry(1)", new PocketHole().carry(1), 0);
        e.due("none stays: carry(3)", Worlds.tenOf(0).carry(3), 0);
        e.due("all of ten: carry(2)", Worlds.tenOf(0).carry(2), 1023);
        e.due("ten tickets: carry(100)", Worlds.tenOf(6).carry(100), 1023);
        e.due("a penny is more than none: carry(1)", Worlds.of("coin pence 0;coin pence 1").carry(1), 2);
        // The KEY opens 35 at STEP 100 alone, so that it goes with the 102nd step, or 34 by the 98th.
        PocketHole key = Worlds.of("key size 34");
        e.due("carry(97)", key.carry(97), 1);
        e.due("carry(98)", key.carry(98), 0);
        e.sentence(19, "of several the least.");
        x = Worlds.of("key size 40 pence 5;coin size 11 pence 5");
        e.due("the KEY widens it for 1: carry(5)", x.carry(5), 1);
        x = Worlds.tenOf(6);
        for (int c = 0; c < 10; c++) {
            x.change(c, 3, c == 4 || c == 7 ? 1 : 0);
        }
        e.due("those of 0 PENCE aren't in it: carry(1)", x.carry(1), 1 << 4 | 1 << 7);
        x.change(4, 3, 0);
        x.change(7, 3, 0);
        e.due("all of 0 PENCE: carry(1)", x.carry(1), 0);
        e.sentence(19, "BEYOND.");
        e.beyond("carry(?)", 1, 100, (y, v) -> y.carry(v));
        e.sentence(19, "STATE: STEP would be above 9999.");
        e.refused(() -> Worlds.rich(9999), "carry(1) at 9999", y -> y.carry(1), Check.STATE);
        e.refused(() -> Worlds.rich(9900), "carry(100) at 9900", y -> y.carry(100), Check.STATE);
        e.still(() -> Worlds.rich(9998), "carry(1) at 9998", y -> y.carry(1), 8 + 16 + 32);
        e.due("carry(100) at 9899", Worlds.bare(9899).carry(100), 0);
    }

    private static void carried(Edges e) {
        e.sentence(20, "These PENCE.");
        e.still(AdviceEdges::toCarry, "carried(1)", x -> x.carried(1), 31);
        e.still(AdviceEdges::toCarry, "carried(3)", x -> x.carried(3), 13);
        e.still(AdviceEdges::toCarry, "carried(100)", x -> x.carried(100), 13);
        e.due("without COINS: carried(1)", new PocketHole().carried(1), 0);
        e.due("none stays: carried(3)", Worlds.tenOf(0).carried(3), 0);
        e.due("the most there can be", nineFall().carried(2), 2400);
        e.sentence(20, "BEYOND.");
        e.beyond("carried(?)", 1, 100, (y, v) -> y.carried(v));
        e.sentence(20, "STATE: STEP would be above 9999.");
        e.refused(() -> Worlds.rich(9999), "carried(1) at 9999", y -> y.carried(1), Check.STATE);
        e.refused(() -> Worlds.rich(9900), "carried(100) at 9900", y -> y.carried(100), Check.STATE);
        e.still(() -> Worlds.rich(9998), "carried(1) at 9998", y -> y.carried(1), 8 + 16 + 32);
        e.due("carried(100) at 9899", Worlds.bare(9899).carried(100), 0);
    }

    /** 1 goes at STEP 100 as a COIN, when the KEY has widened it to 35. */
    private static PocketHole goesLate(int steps) {
        PocketHole x = Worlds.of("key size 40;coin size 35");
        x.steps(steps);
        return x;
    }

    private static void kindFor(Edges e) {
        e.sentence(21, "The KIND as which a COIN, in the POCKET, is there longest "
            + "(by when(); one that is there 100 STEPS on: 101).");
        e.due("when(1)", goesLate(1).when(1), 100);
        e.still(() -> goesLate(1), "100 as COIN, on as WRAPPED: kindFor(1)", x -> x.kindFor(1), 1);
        e.still(() -> goesLate(0), "on as COIN: kindFor(1)", x -> x.kindFor(1), 0);
        e.due("the least of all as long", Worlds.of("coin;hole 0").kindFor(0), 0);
        e.due("on as COIN, to STEP 161 as KEY: kindFor(0)", Worlds.of("coin size 40;hole 0").kindFor(0), 0);
        e.due("a TICKET alone stays", Worlds.of("heavy size 40;hole 99").kindFor(0), 6);
        e.due("KNOTTED alone is thick enough, but a TICKET stays, too", Worlds.of("coin size 4").kindFor(0), 3);
        PocketHole x = Worlds.of("ticket;hole 99");
        x.change(0, 5, 3);
        e.due("all go in the next step", x.kindFor(0), 0);
        x.change(0, 5, 2);
        e.due("as a TICKET it isn't at the hole", x.kindFor(0), 6);
        e.sentence(21, "BEYOND.");
        e.beyond("kindFor(?)", 0, 6, (y, v) -> y.kindFor(v));
        e.beyond(PocketHole::new, "kindFor(?) of none", 0, -1, (y, v) -> y.kindFor(v));
        e.sentence(21, "STATE: it isn't there, or STEP is above 9899.");
        for (int c : new int[] {0, 1, 2, 4, 6}) {
            e.refused("kindFor(" + c + ")", y -> y.kindFor(c), Check.STATE);
        }
        e.refused(() -> Worlds.rich(9900), "kindFor(3) at 9900", y -> y.kindFor(3), Check.STATE);
        e.refused(() -> Worlds.rich(9999), "kindFor(3) at 9999", y -> y.kindFor(3), Check.STATE);
        e.still(() -> Worlds.rich(9899), "kindFor(5) at 9899", y -> y.kindFor(5), 1);
    }

    private static void worst(Edges e) {
        e.sentence(22, "The COIN in the POCKET without which (it being in LEFT now) LOST behind n STEPS (1 to 100) have fewest PENCE.");
        e.still("worst(1), of two the least", x -> x.worst(1), 3);
        e.still(AdviceEdges::nineFall, "worst(10), none is lost", x -> x.worst(10), 0);
        PocketHole x = nineFall();
        x.change(6, 3, 239);
        e.due("without 6 a penny more is lost, all others are alike: worst(11)", x.worst(11), 0);
        x.change(6, 3, 240);
        x.change(8, 3, 239);
        x.change(9, 3, 0);
        e.due("without 9 a penny more is lost, as 8 stays: worst(11)", x.worst(11), 0);
        x = Worlds.of("coin pence 1;coin pence 2;coin pence 4;gap 8 at 7");
        e.due("without 1 that of 1 is lost: worst(11)", x.worst(11), 1);
        e.due("worst(100)", x.worst(100), 1);
        x.put(1, 3);
        e.due("of those in the POCKET: worst(100)", x.worst(100), 0);
        e.due("the last of ten", lastAlone().worst(100), 9);
        e.sentence(22, "BEYOND.");
        e.beyond("worst(?)", 1, 100, (y, v) -> y.worst(v));
        e.sentence(22, "STATE: STEP would be above 9999.");
        e.refused(() -> Worlds.rich(9999), "worst(1) at 9999", y -> y.worst(1), Check.STATE);
        e.refused(() -> Worlds.rich(9900), "worst(100) at 9900", y -> y.worst(100), Check.STATE);
        e.still(() -> Worlds.rich(9998), "worst(1) at 9998", y -> y.worst(1), 3);
        e.sentence(22, "NONE: none is there.");
        e.refused(PocketHole::new, "worst(1) of none", y -> y.worst(1), Check.NONE);
        e.refused(AdviceEdges::noneInPocket, "worst(1), all elsewhere", y -> y.worst(1), Check.NONE);
        e.refused(AdviceEdges::noneInPocket, "worst(100), all elsewhere", y -> y.worst(100), Check.NONE);
    }

    private static PocketHole lastAlone() {
        PocketHole x = Worlds.tenOf(0);
        for (int c = 0; c < 9; c++) {
            x.put(c, 3);
        }
        return x;
    }

    private static PocketHole noneInPocket() {
        PocketHole x = Worlds.rich();
        x.put(3, 1);
        x.put(5, 4);
        return x;
    }

    private static void hem(Edges e) {
        e.sentence(23, "The AT (0 to 7) with which LOST behind n STEPS (1 to 100) have fewest PENCE.");
        e.still("none is lost, of all the least: hem(1)", x -> x.hem(1), 0);
        e.still(AdviceEdges::inTheHem, "AT 0 loses one: hem(1)", x -> x.hem(1), 1);
        e.still(AdviceEdges::inTheHem, "AT 0 to 6 lose one: hem(7)", x -> x.hem(7), 7);
        e.still(AdviceEdges::inTheHem, "all lose one: hem(8)", x -> x.hem(8), 0);
        e.still(AdviceEdges::inTheHem, "hem(100)", x -> x.hem(100), 0);
        e.due("without COINS: hem(100)", new PocketHole().hem(100), 0);
        PocketHole x = Worlds.of("coin pence 240;coin pence 240;gap 8 at 7");
        x.put(0, 1);
        x.change(0, 6, 6);
        x.put(1, 1);
        x.change(1, 6, 6);
        e.due("AT 6 loses one now, 7 later: hem(1)", x.hem(1), 0);
        e.due("0 to 5 never lose one: hem(100)", x.hem(100), 0);
        e.sentence(23, "BEYOND.");
        e.beyond("hem(?)", 1, 100, (y, v) -> y.hem(v));
        e.sentence(23, "STATE: STEP would be above 9999.");
        e.refused(() -> Worlds.rich(9999), "hem(1) at 9999", y -> y.hem(1), Check.STATE);
        e.refused(() -> Worlds.rich(9900), "hem(100) at 9900", y -> y.hem(100), Check.STATE);
        e.still(() -> Worlds.rich(9998), "hem(1) at 9998", y -> y.hem(1), 0);
        e.due("hem(100) at 9899", Worlds.bare(9899).hem(100), 0);
    }
}
