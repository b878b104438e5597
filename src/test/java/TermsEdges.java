import java.util.function.ToIntFunction;

/** What stands ahead of the promises: findings, sets, and rule 1. */
final class TermsEdges {
    private static final int BEYOND = Check.BEYOND;
    private static final int STATE = Check.STATE;
    private static final int MISSING = Check.MISSING;

    private TermsEdges() {
    }

    static void all(Edges e) {
        calls(e);
        findings(e);
        orderAtTheEnd(e);
        orderOfSets(e);
        orderOfTapeAndSheets(e);
        nothingChanges(e);
        sets(e);
        holeAndGap(e);
        coins(e);
        thick(e);
        goes(e);
        wears(e);
    }

    private static void calls(Edges e) {
        e.sentence(0, "An object is used for at most 512 calls");
        PocketHole x = Worlds.tenOf(4);
        for (int call = 11; call < 511; call++) {
            x.change(call % 10, 1, 1 + call % 40);
        }
        e.due("call 511", x.steps(2), 0);
        e.due("call 512", x.now(0), 2);
    }

    private static void findings(Edges e) {
        e.sentence(0, "FINDINGS are answers below -1000000: LOW is -1000001; LOW BEYOND, LOW - 1 FULL, LOW - 2 KIND, "
            + "LOW - 3 NONE, LOW - 4 STATE, LOW - 5 MISSING, LOW - 6 SIZE.");
        PocketHole x = Worlds.full();
        x.hold(0, 0);
        e.due("BEYOND", x.coin(-1), -1000001);
        e.due("FULL", x.coin(0), -1000002);
        e.due("KIND", x.as(0, 1), -1000003);
        e.due("NONE", x.pay(9999), -1000004);
        e.due("STATE", x.paid(1), -1000005);
        e.due("MISSING", x.as(1, 0), -1000006);
        e.due("SIZE", x.sheet(0, 8, -1), -1000007);
        e.sentence(0, "What seed() and count(6) tell, z, may be any int: that is no finding.");
        for (int z : new int[] {-1000001, -1000004, -1000007, -1000008, Integer.MIN_VALUE, Integer.MAX_VALUE}) {
            x = new PocketHole();
            x.seed(z);
            e.due("count(6)", x.count(6), z);
            e.due("seed(1)", x.seed(1), z);
            e.due("status(-1)", x.status(-1), 0);
        }
    }

    /** Each is refused for more than one reason; that which is named first counts. */
    private static void orderAtTheEnd(Edges e) {
        e.sentence(0, "Each act tells its findings in the order in which they are asked (that of its words);");
        e.refused(Worlds::full, "coin(7)", x -> x.coin(7), BEYOND);
        for (int n : new int[] {101, Integer.MAX_VALUE}) {
            late(e, "steps(n)", x -> x.steps(n));
            late(e, "ahead(n, 0)", x -> x.ahead(n, 0));
            late(e, "cell(0, n)", x -> x.cell(0, n));
            late(e, "bears(0, n)", x -> x.bears(0, n));
            late(e, "latest(n, 0)", x -> x.latest(n, 0));
            late(e, "carry(n)", x -> x.carry(n));
            late(e, "carried(n)", x -> x.carried(n));
            late(e, "worst(n)", x -> x.worst(n));
            late(e, "hem(n)", x -> x.hem(n));
            late(e, "fits(64, n)", x -> x.fits(64, n));
            late(e, "size(64, n)", x -> x.size(64, n));
            late(e, "boy(64, n)", x -> x.boy(64, n));
            late(e, "days(n)", x -> x.days(n));
        }
        late(e, "ahead(1, 6)", x -> x.ahead(1, 6));
        late(e, "when(7)", x -> x.when(7));
        late(e, "falls(7)", x -> x.falls(7));
        late(e, "cell(7, 1)", x -> x.cell(7, 1));
        late(e, "bears(7, 1)", x -> x.bears(7, 1));
        late(e, "latest(1, -1)", x -> x.latest(1, -1));
        late(e, "kindFor(7)", x -> x.kindFor(7));
        late(e, "fits(128, 1)", x -> x.fits(128, 1));
        late(e, "size(128, 1)", x -> x.size(128, 1));
        late(e, "began(128)", x -> x.began(128));
        late(e, "boy(128, 1)", x -> x.boy(128, 1));
        late(e, "judge(0, 7)", x -> x.judge(0, 7));
        e.refused(() -> Worlds.bare(9999), "first(), STATE ahead of NONE", x -> x.first(), STATE);
        e.refused(() -> Worlds.bare(9999), "worst(1), STATE ahead of NONE", x -> x.worst(1), STATE);
        e.refused(() -> Worlds.rich(9999), "when(5), STATE ahead of NONE", x -> x.when(5), STATE);
        e.refused(() -> Worlds.rich(9999), "falls(5), STATE ahead of NONE", x -> x.falls(5), STATE);
        e.refused(() -> Worlds.rich(9999), "cell(5, 1), STATE ahead of NONE", x -> x.cell(5, 1), STATE);
        e.refused(() -> Worlds.rich(9999), "size(64, 1), STATE ahead of NONE", x -> x.size(64, 1), STATE);
        e.refused(TermsEdges::lossAt9999, "latest(1, 0), STATE ahead of NONE", x -> x.latest(1, 0), STATE);
    }

    /** At STEP 9999 it is refused as BEYOND, not as STATE. */
    private static void late(Edges e, String call, ToIntFunction<PocketHole> act) {
        e.refused(() -> Worlds.rich(9999), call, act, BEYOND);
    }

    private static PocketHole lossAt9999() {
        PocketHole x = Worlds.bare(9999);
        x.rule(1, 8);
        for (int c = 0; c < 2; c++) {
            x.put(x.coin(0), 1);
            x.change(c, 6, 7);
        }
        return x;
    }

    private static void orderOfSets(Edges e) {
        e.refused("of two that are not there: paid(129)", x -> x.paid(129), BEYOND);
        e.refused("it is in LEFT: bears(4, 0)", x -> x.bears(4, 0), BEYOND);
        e.refused("it didn't fall: back(1, 0)", x -> x.back(1, 0), BEYOND);
        e.refused("no coin, no way: back(7, 0)", x -> x.back(7, 0), BEYOND);
        e.refused(PocketHole::new, "without COINS: richest(0)", x -> x.richest(0), BEYOND);
        e.refused(PocketHole::new, "without COINS: days(0)", x -> x.days(0), BEYOND);
        e.refused(PocketHole::new, "without COINS: pay(-1)", x -> x.pay(-1), BEYOND);
        e.refused(PocketHole::new, "without COINS: small(-1)", x -> x.small(-1), BEYOND);
        e.refused(PocketHole::new, "without COINS: worst(0)", x -> x.worst(0), BEYOND);
    }

    private static void orderOfTapeAndSheets(Edges e) {
        e.refused(TermsEdges::fullTape, "feed(0, 5) of a full one", x -> x.feed(0, 5), BEYOND);
        e.refused("as(0, 7) of nothing", x -> x.as(0, 7), BEYOND);
        e.refused("as(0, 6) of nothing", x -> x.as(0, 6), MISSING);
        e.refused("sheet(4, 8, -1)", x -> x.sheet(4, 8, -1), BEYOND);
        e.refused("sheet(4, 9, -1)", x -> x.sheet(4, 9, -1), BEYOND);
        e.refused("sheet(0, 9, -1)", x -> x.sheet(0, 9, -1), BEYOND);
        e.refused("write(4, -1, 0)", x -> x.write(4, -1, 0), BEYOND);
        e.refused("write(3, -1, 0)", x -> x.write(3, -1, 0), MISSING);
        e.refused("write(3, 40, 0)", x -> x.write(3, 40, 0), MISSING);
        e.refused("copy(4, 0, 3, 0, 0)", x -> x.copy(4, 0, 3, 0, 0), BEYOND);
        e.refused("copy(3, 0, 4, 0, 0)", x -> x.copy(3, 0, 4, 0, 0), BEYOND);
        e.refused("copy(3, -1, 0, 0, 0)", x -> x.copy(3, -1, 0, 0, 0), MISSING);
        e.refused("copy(0, 0, 3, 0, -1)", x -> x.copy(0, 0, 3, 0, -1), MISSING);
        e.refused("copy(0, -1, 1, -1, -1)", x -> x.copy(0, -1, 1, -1, -1), Check.KIND);
        e.refused("copy(0, 0, 1, 0, 40)", x -> x.copy(0, 0, 1, 0, 40), Check.KIND);
        e.refused("judge(4, 7)", x -> x.judge(4, 7), BEYOND);
        e.refused("judge(3, 7)", x -> x.judge(3, 7), MISSING);
        e.refused(() -> Worlds.rich(9999), "judge(3, 0)", x -> x.judge(3, 0), MISSING);
    }

    private static PocketHole fullTape() {
        PocketHole x = Worlds.rich();
        x.wipe();
        for (int i = 0; i < 30; i++) {
            x.feed(0, 4);
        }
        return x;
    }

    private static void nothingChanges(Edges e) {
        e.sentence(0, "one that answers a finding changes nothing but status().");
        PocketHole x = Worlds.rich();
        refusals(x);
        e.due("status(-1)", x.status(-1), 2 + 24);
        e.alike("behind all of them", x, Worlds.rich());
        e.sentence(0, "what to do (nothing changes).");
        x = Worlds.rich();
        for (int n = 1; n <= 100; n += 33) {
            x.bears(3, n);
            x.latest(n, 0);
            x.carry(n);
            x.carried(n);
            x.worst(n);
            x.hem(n);
        }
        x.kindFor(3);
        e.due("status(-1)", x.status(-1), 2);
        e.alike("behind all of them", x, Worlds.rich());
    }

    /** 24 calls that a rich object refuses. */
    private static void refusals(PocketHole x) {
        x.coin(7);
        x.change(0, 1, 41);
        x.put(0, 5);
        x.rule(0, 100);
        x.steps(101);
        x.when(5);
        x.bears(0, 1);
        x.latest(101, 0);
        x.pay(1);
        x.small(1);
        x.paid(8 + 1);
        x.size(64, 1);
        x.back(1, 1);
        x.days(13);
        x.feed(0, 5);
        x.hold(10, 0);
        x.sheet(0, 9, 1);
        x.sheet(0, 8, -1);
        x.write(0, 3, 1);
        x.copy(0, 0, 1, 0, 1);
        x.load(3);
        x.count(8);
        x.status(7);
        x.lie(5);
    }

    private static void sets(Edges e) {
        e.sentence(0, "Quotients are cut.");
        e.due("half of 9", Worlds.of("flat size 9").of(0, 8), 4);
        PocketHole x = Worlds.of("coin;coin;gap 8 at 7");
        x.steps(16);
        e.due("5 by 3", x.back(0, 3), 1);
        e.sentence(0, "Sets are told as bits;");
        e.due("lie(0) of all", Worlds.tenOf(0).lie(0), 0x3ff);
        x = Worlds.tenOf(0);
        x.put(0, 3);
        x.put(9, 3);
        e.due("lie(3)", x.lie(3), 1 + (1 << 9));
        e.sentence(0, "of several that would do the least number counts, where nothing else is told.");
        x = Worlds.tenOf(0);
        e.due("first()", x.first(), 0);
        e.due("worst(1)", x.worst(1), 0);
        e.due("hem(1)", x.hem(1), 0);
        e.due("pay(30)", x.pay(30), 31);
        e.due("small(30)", x.small(30), 31);
        e.due("kindFor(0), as KNOTTED or as a TICKET", x.kindFor(0), 3);
        e.due("size(1023, 3)", x.size(1023, 3), 8);
    }

    /** It may be as told, and nothing less or more. */
    private static void ranged(Edges e, int rule, int most, int first) {
        e.due("at first", new PocketHole().now(1 + rule), first);
        for (int v = 0; v <= most; v++) {
            PocketHole x = new PocketHole();
            e.due("rule(" + rule + ", " + v + ")", x.rule(rule, v), first);
            e.due("now", x.now(1 + rule), v);
        }
        e.beyond("rule(" + rule + ", ?)", 0, most, (x, v) -> x.rule(rule, v));
    }

    private static void holeAndGap(Edges e) {
        e.sentence(0, "1. HOLE (0 to 99 lines; 10 at first).");
        ranged(e, 0, 99, 10);
        e.sentence(0, "GAP (0 to 99; 0 at first): a second hole, in the hem,");
        ranged(e, 1, 99, 0);
        e.sentence(0, "in the CELL AT (0 to 7; 7 at first).");
        ranged(e, 2, 7, 7);
    }

    private static void ofACoin(Edges e, int what, int least, int most, int first) {
        PocketHole x = Worlds.tenOf(3);
        for (int c = 0; c < 10; c++) {
            e.due("at first", x.of(c, what), first);
        }
        int was = first;
        for (int v = least; v <= most; v++) {
            e.due("change(9, " + what + ", " + v + ")", x.change(9, what, v), was);
            was = v;
        }
        e.beyond("change(0, " + what + ", ?)", least, most, (y, v) -> y.change(0, what, v));
    }

    private static void coins(Edges e) {
        e.sentence(0, "COINS 0, 1, .. (at most 10), each of");
        PocketHole x = new PocketHole();
        for (int c = 0; c < 10; c++) {
            e.due("coin(0)", x.coin(0), c);
        }
        e.due("an 11th", x.coin(0), Check.FULL);
        e.due("COINS", x.count(1), 10);
        e.sentence(0, "SIZE (1 to 40; 8 at first),");
        ofACoin(e, 1, 1, 40, 8);
        e.sentence(0, "WEIGHT (1 to 50; 5 at first),");
        ofACoin(e, 2, 1, 50, 5);
        e.sentence(0, "PENCE (0 to 240; 6 at first),");
        ofACoin(e, 3, 0, 240, 6);
        e.sentence(0, "in a PLACE: 0 POCKET (at first), 1 LINING, 2 GROUND, 3 LEFT (the other pocket), 4 PAID;");
        e.due("at first", Worlds.tenOf(0).lie(0), 1023);
        x = Worlds.of("coin;coin;coin left;coin;gap 8 at 7");
        x.paid(8);
        x.steps(11);
        e.due("it came to the GROUND", x.of(0, 4), 2);
        e.due("it is in the LINING", x.of(1, 4), 1);
        e.due("it is left", x.of(2, 4), 3);
        e.due("it is PAID", x.of(3, 4), 4);
        e.beyond("put(0, ?)", 0, 4, (y, v) -> y.put(0, v));
        e.sentence(0, "with NEAR (0 to 9; 0 at first)");
        ofACoin(e, 5, 0, 9, 0);
        e.sentence(0, "and a CELL (0 to 7; 0 at first),");
        ofACoin(e, 6, 0, 7, 0);
        e.sentence(0, "STEP at which it came to the GROUND (-1: it didn't);");
        e.due("at first", Worlds.tenOf(0).of(9, 7), -1);
        e.due("at STEP 10", x.of(0, 7), 10);
        e.due("it didn't", x.of(1, 7), -1);
        e.sentence(0, "of KINDS: 0 COIN; 1 WRAPPED, 2 HEAVY, 5 FLAT under COIN; 3 KNOTTED under WRAPPED; "
            + "4 KEY under HEAVY; 6 TICKET under FLAT.");
        kinds(e);
    }

    private static void kinds(Edges e) {
        int[] above = {-1, 0, 0, 1, 2, 0, 5};
        for (int kind = 0; kind <= 6; kind++) {
            PocketHole x = Worlds.tenOf(kind);
            x.hold(0, 9);
            for (int as = 0; as <= 6; as++) {
                boolean isOne = as == kind || as == above[kind] || above[kind] > 0 && as == above[above[kind]];
                e.due("a " + kind + " as " + as, x.as(0, as), isOne ? 9 : Check.KIND);
            }
        }
        e.beyond("coin(?)", 0, 6, (y, v) -> y.coin(v));
        e.beyond("change(0, 0, ?)", 0, 6, (y, v) -> y.change(0, 0, v));
    }

    /** What of() tells of a coin of that kind by its SIZE: pairs of SIZE and what is due. */
    private static void told(Edges e, int what, int kind, int... pairs) {
        PocketHole x = Worlds.tenOf(kind);
        for (int i = 0; i < pairs.length; i += 2) {
            x.change(9, 1, pairs[i]);
            e.due("of(9, " + what + ") of kind " + kind + ", SIZE " + pairs[i], x.of(9, what), pairs[i + 1]);
        }
    }

    private static void thick(Edges e) {
        e.sentence(0, "THICK (lines): COIN: SIZE.");
        told(e, 8, 0, 1, 1, 8, 8, 40, 40);
        e.sentence(0, "WRAPPED: twice that.");
        told(e, 8, 1, 1, 2, 8, 16, 40, 80);
        e.sentence(0, "KNOTTED: as a WRAPPED one, and 3.");
        told(e, 8, 3, 1, 5, 8, 19, 40, 83);
        e.sentence(0, "FLAT: half of that of a COIN (cut), 1 at least.");
        told(e, 8, 5, 1, 1, 2, 1, 3, 1, 4, 2, 5, 2, 39, 19, 40, 20);
        e.sentence(0, "(Others as the KIND above.)");
        told(e, 8, 2, 1, 1, 8, 8, 40, 40);
        told(e, 8, 4, 1, 1, 8, 8, 40, 40);
        told(e, 8, 6, 1, 1, 2, 1, 3, 1, 4, 2, 39, 19, 40, 20);
    }

    private static void goes(Edges e) {
        e.sentence(0, "GOES: COIN: 1.");
        told(e, 9, 0, 1, 1, 40, 1);
        e.sentence(0, "HEAVY: 2.");
        told(e, 9, 2, 1, 2, 40, 2);
        e.sentence(0, "TICKET: as a FLAT one, less 1.");
        told(e, 9, 6, 1, 0, 40, 0);
        e.sentence(0, "(Others as the KIND above.)");
        told(e, 9, 1, 8, 1);
        told(e, 9, 3, 8, 1);
        told(e, 9, 4, 8, 2);
        told(e, 9, 5, 8, 1);
    }

    /** What one of that kind WEARS with some HOLES: pairs of HOLE and what is due. */
    private static void worn(Edges e, String coin, int... pairs) {
        PocketHole x = Worlds.of(coin);
        for (int i = 0; i < pairs.length; i += 2) {
            x.rule(0, pairs[i]);
            e.due("a " + coin + " WEARS with HOLE " + pairs[i], x.of(0, 10), pairs[i + 1]);
        }
    }

    private static void wears(Edges e) {
        e.sentence(0, "WEARS: COIN: 1, if twice its THICK is HOLE or more, else 0.");
        worn(e, "coin", 0, 1, 15, 1, 16, 1, 17, 0, 99, 0);
        worn(e, "coin size 40", 0, 1, 80, 1, 81, 0, 99, 0);
        worn(e, "coin size 1", 0, 1, 2, 1, 3, 0);
        e.sentence(0, "HEAVY: as a COIN, and 1.");
        worn(e, "heavy", 0, 2, 16, 2, 17, 1, 99, 1);
        e.sentence(0, "KEY: as a HEAVY one, and 1.");
        worn(e, "key", 0, 3, 16, 3, 17, 2, 99, 2);
        e.sentence(0, "WRAPPED: 0.");
        worn(e, "wrapped", 0, 0, 16, 0, 32, 0, 99, 0);
        e.sentence(0, "(Others as the KIND above.)");
        worn(e, "knotted", 0, 0, 16, 0, 38, 0, 99, 0);
        worn(e, "flat", 0, 1, 8, 1, 9, 0, 16, 0);
        worn(e, "ticket", 0, 1, 8, 1, 9, 0, 16, 0);
        worn(e, "flat size 1", 2, 1, 3, 0);
    }
}
