/** Promises 10 to 16, sentence by sentence. */
final class StepsEdges {
    private StepsEdges() {
    }

    static void all(Edges e) {
        steps(e);
        now(e);
        ahead(e);
        when(e);
        falls(e);
        first(e);
        cell(e);
    }

    /** 0 and 1 come to the LINING in the 3rd step, to CELL 7 in the 10th; 0 falls in the 11th. 2 lies there. */
    private static PocketHole two() {
        PocketHole x = Worlds.of("coin;coin pence 9;coin;gap 8 at 7");
        x.put(2, 2);
        return x;
    }

    /** The KEY makes HOLE 35 at STEP 100, the 101st; it goes in the 102nd. */
    private static PocketHole lateKey(int steps) {
        PocketHole x = Worlds.of("key size 35");
        x.steps(steps);
        return x;
    }

    /** The KEY comes to the LINING in the 98th step, to CELL 7 in the 102nd, and falls in the 103rd. */
    private static PocketHole lateFall(int steps) {
        PocketHole x = Worlds.of("key size 34;knotted size 40;gap 34 at 7");
        x.put(1, 1);
        x.change(1, 6, 7);
        x.steps(steps);
        return x;
    }

    private static void steps(Edges e) {
        e.sentence(10, "n STEPS go (1 to 100): how many COINS come to the GROUND in them.");
        PocketHole x = two();
        e.due("steps(1)", x.steps(1), 0);
        e.due("STEP", x.now(0), 1);
        e.due("steps(9)", x.steps(9), 0);
        e.due("steps(1), the 11th", x.steps(1), 1);
        e.due("steps(100)", x.steps(100), 0);
        e.due("STEP", x.now(0), 111);
        x = two();
        e.due("steps(100) at once", x.steps(100), 1);
        e.due("STEP", x.now(0), 100);
        x = new PocketHole();
        e.due("steps(100) without COINS", x.steps(100), 0);
        e.due("STEP", x.now(0), 100);
        x = Worlds.tenOf(0);
        x.rule(1, 8);
        e.due("nine of ten fall, the last is alone", x.steps(100), 9);
        e.sentence(10, "BEYOND.");
        e.beyond("steps(?)", 1, 100, (y, v) -> y.steps(v));
        e.sentence(10, "STATE: STEP would be above 9999.");
        e.refused(() -> Worlds.rich(9999), "steps(1) at 9999", y -> y.steps(1), Check.STATE);
        e.refused(() -> Worlds.rich(9999), "steps(100) at 9999", y -> y.steps(100), Check.STATE);
        e.refused(() -> Worlds.rich(9900), "steps(100) at 9900", y -> y.steps(100), Check.STATE);
        x = Worlds.bare(9899);
        e.due("steps(100) at 9899", x.steps(100), 0);
        e.due("STEP", x.now(0), 9999);
        x = Worlds.rich(9998);
        e.due("steps(1) at 9998", x.steps(1), 0);
        e.due("STEP", x.now(0), 9999);
    }

    private static void now(Edges e) {
        e.sentence(11, "What 0 STEP, 1 HOLE, 2 GAP, 3 AT, 4 CLINKS, 5 WEIGHT of all in POCKET and LINING, "
            + "6 WEIGHT of all in LEFT.");
        int[] rich = {13, 17, 9, 7, 0, 43, 5};
        int[] bare = {0, 10, 0, 7, 0, 0, 0};
        for (int what = 0; what <= 6; what++) {
            int asked = what;
            e.still("now(" + what + ")", x -> x.now(asked), rich[what]);
            e.still(PocketHole::new, "now(" + what + ") at first", x -> x.now(asked), bare[what]);
        }
        e.due("STEP, the last", Worlds.bare(9999).now(0), 9999);
        int[] weights = {500, 500, 0, 0, 0};
        for (int place = 0; place <= 4; place++) {
            PocketHole x = Worlds.tenOf(0);
            for (int c = 0; c < 10; c++) {
                x.change(c, 2, 50);
                x.put(c, place);
            }
            e.due("WEIGHT of POCKET and LINING, all in " + place, x.now(5), weights[place]);
            e.due("WEIGHT of LEFT, all in " + place, x.now(6), place == 3 ? 500 : 0);
        }
        e.sentence(11, "BEYOND.");
        e.beyond("now(?)", 0, 6, (x, v) -> x.now(v));
    }

    private static void ahead(Edges e) {
        e.sentence(12, "AHEAD n STEPS (0 to 100): what 0 GONE, as a set, 1 LOST, as a set, 2 HOLE, 3 CLINKS, "
            + "4 PENCE on the GROUND, 5 COINS in the LINING, as a set.");
        ahead(e, 0, 0, 0, 10, 0, 6, 0);
        ahead(e, 2, 0, 0, 10, 0, 6, 0);
        ahead(e, 3, 3, 0, 12, 1, 6, 3);
        ahead(e, 10, 3, 0, 12, 1, 6, 3);
        ahead(e, 11, 3, 1, 12, 0, 12, 2);
        ahead(e, 100, 3, 1, 12, 0, 12, 2);
        e.due("ahead(100, 0), the 102nd", lateKey(1).ahead(100, 0), 0);
        e.due("ahead(100, 0), the 102nd", lateKey(2).ahead(100, 0), 1);
        e.due("ahead(99, 0), the 101st", lateKey(2).ahead(99, 0), 0);
        e.sentence(12, "BEYOND.");
        for (int what = 0; what <= 5; what++) {
            int asked = what;
            e.beyond("ahead(?, " + what + ")", 0, 100, (x, v) -> x.ahead(v, asked));
        }
        e.beyond("ahead(0, ?)", 0, 5, (x, v) -> x.ahead(0, v));
        e.beyond("ahead(100, ?)", 0, 5, (x, v) -> x.ahead(100, v));
        e.sentence(12, "STATE: STEP would be above 9999.");
        for (int what = 0; what <= 5; what++) {
            int asked = what;
            e.refused(() -> Worlds.rich(9999), "ahead(1, " + what + ") at 9999", x -> x.ahead(1, asked), Check.STATE);
        }
        e.refused(() -> Worlds.rich(9900), "ahead(100, 2) at 9900", x -> x.ahead(100, 2), Check.STATE);
        e.still(() -> Worlds.rich(9999), "ahead(0, 4) at 9999", x -> x.ahead(0, 4), 5);
        e.still(() -> Worlds.rich(9998), "ahead(1, 4) at 9998", x -> x.ahead(1, 4), 5);
        e.due("ahead(100, 0) at 9899", Worlds.bare(9899).ahead(100, 0), 0);
    }

    private static void ahead(Edges e, int n, int... due) {
        for (int what = 0; what < due.length; what++) {
            int asked = what;
            e.still(StepsEdges::two, "ahead(" + n + ", " + what + ")", x -> x.ahead(n, asked), due[what]);
        }
    }

    private static void when(Edges e) {
        e.sentence(13, "Behind how many STEPS (0 to 100) AHEAD a COIN isn't in the POCKET first.");
        for (int c : new int[] {0, 1, 2, 4, 6}) {
            e.still("it isn't there now: when(" + c + ")", x -> x.when(c), 0);
        }
        e.still("when(3)", x -> x.when(3), 93);
        e.still(() -> lateKey(2), "behind 100: when(0)", x -> x.when(0), 100);
        PocketHole near = Worlds.of("coin");
        e.due("when(0)", near.when(0), 3);
        near.change(0, 5, 2);
        e.due("when(0), NEAR 2", near.when(0), 1);
        e.due("when(9) of ten", Worlds.tenOf(0).when(9), 3);
        e.sentence(13, "BEYOND.");
        e.beyond("when(?)", 0, 6, (x, v) -> x.when(v));
        e.beyond(PocketHole::new, "when(?) of none", 0, -1, (x, v) -> x.when(v));
        e.sentence(13, "STATE: STEP is above 9899.");
        for (int c = 0; c <= 6; c++) {
            int asked = c;
            e.refused(() -> Worlds.rich(9900), "when(" + c + ") at 9900", x -> x.when(asked), Check.STATE);
        }
        e.refused(() -> Worlds.rich(9999), "when(0) at 9999", x -> x.when(0), Check.STATE);
        e.still(() -> Worlds.rich(9899), "when(0) at 9899", x -> x.when(0), 0);
        e.sentence(13, "NONE.");
        e.refused("when(5), too thick", x -> x.when(5), Check.NONE);
        e.refused(() -> lateKey(1), "behind 101: when(0)", x -> x.when(0), Check.NONE);
        e.refused(() -> Worlds.rich(9899), "when(5) at 9899", x -> x.when(5), Check.NONE);
    }

    private static void falls(Edges e) {
        e.sentence(14, "Behind how many STEPS (0 to 100) AHEAD it is on the GROUND first.");
        e.still("it is there now: falls(0)", x -> x.falls(0), 0);
        e.still("it is there now: falls(2)", x -> x.falls(2), 0);
        e.still(StepsEdges::two, "falls(0)", x -> x.falls(0), 11);
        e.still(StepsEdges::two, "put there: falls(2)", x -> x.falls(2), 0);
        e.still(() -> lateFall(3), "behind 100: falls(0)", x -> x.falls(0), 100);
        PocketHole x = two();
        x.steps(10);
        e.due("falls(0)", x.falls(0), 1);
        e.sentence(14, "BEYOND.");
        e.beyond("falls(?)", 0, 6, (y, v) -> y.falls(v));
        e.beyond(PocketHole::new, "falls(?) of none", 0, -1, (y, v) -> y.falls(v));
        e.sentence(14, "STATE: STEP is above 9899.");
        for (int c = 0; c <= 6; c++) {
            int asked = c;
            e.refused(() -> Worlds.rich(9900), "falls(" + c + ") at 9900", y -> y.falls(asked), Check.STATE);
        }
        e.refused(() -> Worlds.rich(9999), "falls(0) at 9999", y -> y.falls(0), Check.STATE);
        e.still(() -> Worlds.rich(9899), "falls(0) at 9899", y -> y.falls(0), 0);
        e.sentence(14, "NONE.");
        e.refused("falls(4), in LEFT", y -> y.falls(4), Check.NONE);
        e.refused("falls(6), PAID", y -> y.falls(6), Check.NONE);
        e.refused(() -> lateFall(2), "behind 101: falls(0)", y -> y.falls(0), Check.NONE);
        e.refused(StepsEdges::two, "it is alone then: falls(1)", y -> y.falls(1), Check.NONE);
    }

    private static void first(Edges e) {
        e.sentence(15, "The COIN in the POCKET that is GONE first, of several the least.");
        e.still("first()", x -> x.first(), 3);
        e.still(() -> lateKey(2), "behind 100: first()", x -> x.first(), 0);
        e.due("of ten the least", Worlds.tenOf(0).first(), 0);
        PocketHole x = Worlds.tenOf(0);
        x.change(9, 5, 1);
        e.due("the last goes first", x.first(), 9);
        x.change(4, 5, 1);
        e.due("of two the least", x.first(), 4);
        x.change(4, 1, 11);
        e.due("too thick", x.first(), 9);
        x.put(9, 3);
        e.due("of those in the POCKET", x.first(), 0);
        e.sentence(15, "STATE: STEP is above 9899.");
        e.refused(() -> Worlds.rich(9900), "first() at 9900", y -> y.first(), Check.STATE);
        e.refused(() -> Worlds.rich(9999), "first() at 9999", y -> y.first(), Check.STATE);
        e.refused(() -> Worlds.bare(9900), "first() of none at 9900", y -> y.first(), Check.STATE);
        e.still(() -> Worlds.rich(9899), "first() at 9899", y -> y.first(), 3);
        e.sentence(15, "NONE.");
        e.refused(PocketHole::new, "first() of none", y -> y.first(), Check.NONE);
        e.refused(() -> lateKey(1), "behind 101: first()", y -> y.first(), Check.NONE);
        e.refused(() -> Worlds.tenOf(6), "first() of tickets", y -> y.first(), Check.NONE);
        e.refused(() -> Worlds.bare(9899), "first() of none at 9899", y -> y.first(), Check.NONE);
    }

    private static void cell(Edges e) {
        e.sentence(16, "The CELL in which a COIN is AHEAD n STEPS (0 to 100).");
        e.still("cell(1, 0)", x -> x.cell(1, 0), 7);
        e.still(StepsEdges::two, "it just came: cell(0, 3)", x -> x.cell(0, 3), 0);
        e.still(StepsEdges::two, "cell(0, 4)", x -> x.cell(0, 4), 1);
        e.still(StepsEdges::two, "cell(0, 10)", x -> x.cell(0, 10), 7);
        e.still(StepsEdges::two, "cell(1, 100)", x -> x.cell(1, 100), 7);
        e.still(() -> lateFall(0), "98 STEPS: cell(0, 98)", x -> x.cell(0, 98), 0);
        e.still(() -> lateFall(0), "100 STEPS: cell(0, 100)", x -> x.cell(0, 100), 4);
        e.sentence(16, "BEYOND.");
        e.beyond("cell(?, 0)", 0, 6, (x, v) -> x.cell(v, 0));
        e.beyond("cell(1, ?)", 0, 100, (x, v) -> x.cell(1, v));
        e.sentence(16, "STATE: STEP would be above 9999.");
        for (int c = 0; c <= 6; c++) {
            int asked = c;
            e.refused(() -> Worlds.rich(9999), "cell(" + c + ", 1) at 9999", x -> x.cell(asked, 1), Check.STATE);
        }
        e.refused(() -> Worlds.rich(9900), "cell(1, 100) at 9900", x -> x.cell(1, 100), Check.STATE);
        e.still(() -> Worlds.rich(9999), "cell(1, 0) at 9999", x -> x.cell(1, 0), 7);
        e.still(() -> Worlds.rich(9998), "cell(1, 1) at 9998", x -> x.cell(1, 1), 7);
        e.still(() -> Worlds.rich(9909), "cell(1, 90) at 9909", x -> x.cell(1, 90), 7);
        e.sentence(16, "NONE: it isn't in the LINING then.");
        for (int c : new int[] {0, 2, 3, 4, 5, 6}) {
            e.refused("cell(" + c + ", 0)", x -> x.cell(c, 0), Check.NONE);
        }
        e.refused(StepsEdges::two, "not yet: cell(0, 2)", x -> x.cell(0, 2), Check.NONE);
        e.refused(StepsEdges::two, "not any more: cell(0, 11)", x -> x.cell(0, 11), Check.NONE);
    }
}
