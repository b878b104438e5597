import java.util.List;
import java.util.function.ToIntFunction;

/** What stands ahead of the promises: rule 2, a STEP, and what is AHEAD. */
final class StepRuleEdges {
    private StepRuleEdges() {
    }

    static void all(Edges e) {
        byNumbers(e);
        near(e);
        throughTheHole(e);
        keys(e);
        hem(e);
        falls(e);
        cells(e);
        lastStep(e);
        ahead(e);
        draws(e);
    }

    private static PocketHole stepped(String text, int n) {
        PocketHole x = Worlds.of(text);
        x.steps(n);
        return x;
    }

    private static void byNumbers(Edges e) {
        e.sentence(0, "2. A STEP: by numbers each COIN in the POCKET:");
        e.due("0 widens it for 1", stepped("coin size 10;coin size 11", 3).lie(1), 3);
        e.due("1 comes behind 0", stepped("coin size 11;coin size 10", 3).lie(1), 2);
        e.due("one by one all ten", chain(true).lie(1), 1023);
        e.due("the other way round the last alone", chain(false).lie(1), 512);
        for (int place = 1; place <= 4; place++) {
            PocketHole x = Worlds.of("coin");
            x.put(0, place);
            x.steps(5);
            e.due("one in PLACE " + place + " stays there", x.of(0, 4), place);
            e.due("NEAR", x.of(0, 5), 0);
            e.due("HOLE", x.now(1), 10);
        }
    }

    /** Ten coins of SIZES 10 to 19, or 19 to 10, by three STEPS. */
    private static PocketHole chain(boolean up) {
        PocketHole x = Worlds.tenOf(0);
        for (int c = 0; c < 10; c++) {
            x.change(c, 1, up ? 10 + c : 19 - c);
        }
        x.steps(3);
        return x;
    }

    private static void near(Edges e) {
        e.sentence(0, "NEAR is more by what it GOES (9 at most);");
        int[] coin = {1, 2, 3, 4, 5, 6, 7, 8, 9, 9, 9};
        int[] heavy = {2, 4, 6, 8, 9, 9, 9, 9, 9, 9, 9};
        PocketHole x = Worlds.of("coin;heavy;ticket;hole 0");
        for (int n = 0; n < coin.length; n++) {
            x.steps(1);
            e.due("NEAR of a COIN", x.of(0, 5), coin[n]);
            e.due("NEAR of a HEAVY one", x.of(1, 5), heavy[n]);
            e.due("NEAR of a TICKET", x.of(2, 5), 0);
        }
        e.sentence(0, "if it is 3 or more then:");
        e.due("2: COIN", stepped("coin", 2).lie(0), 1);
        e.due("3: COIN", stepped("coin", 3).lie(0), 0);
        e.due("2: HEAVY", stepped("heavy", 1).lie(0), 1);
        e.due("4: HEAVY", stepped("heavy", 2).lie(0), 0);
        e.due("NEAR stays as it is then", stepped("heavy", 2).of(0, 5), 4);
        for (int was = 0; was <= 9; was++) {
            x = Worlds.of("ticket");
            x.change(0, 5, was);
            x.steps(1);
            e.due("a TICKET, NEAR " + was, x.of(0, 4), was < 3 ? 0 : 1);
        }
    }

    private static void throughTheHole(Edges e) {
        e.sentence(0, "if it is no THICKER than HOLE, it is in the LINING, in CELL 0,");
        e.due("as THICK", stepped("coin size 10", 3).lie(1), 1);
        e.due("THICKER by 1", stepped("coin size 11", 50).lie(1), 0);
        e.due("KNOTTED, as THICK", stepped("knotted size 40;hole 83", 3).lie(1), 1);
        e.due("KNOTTED, THICKER by 1", stepped("knotted size 40;hole 82", 50).lie(1), 0);
        e.due("with HOLE 0 none goes", stepped("flat size 1;hole 0", 50).lie(1), 0);
        e.due("with HOLE 1 the least goes", stepped("flat size 1;hole 1", 3).lie(1), 1);
        PocketHole x = Worlds.of("coin");
        x.change(0, 6, 7);
        x.steps(3);
        e.due("CELL", x.of(0, 6), 0);
        e.sentence(0, "and HOLE is more by what it WEARS (99 at most);");
        e.due("COIN", stepped("coin", 3).now(1), 11);
        e.due("COIN, it is wide", stepped("coin;hole 17", 3).now(1), 17);
        e.due("HEAVY", stepped("heavy", 3).now(1), 12);
        e.due("KEY", stepped("key", 3).now(1), 13);
        e.due("WRAPPED", stepped("wrapped size 5", 3).now(1), 10);
        e.due("two, each with the HOLE that is then", stepped("coin;coin;hole 16", 3).now(1), 17);
        e.due("KEY, from 96", stepped("key;hole 96", 2).now(1), 98);
        e.due("KEY, from 97", stepped("key;hole 97", 2).now(1), 99);
        e.due("KEY, from 98", stepped("key;hole 98", 2).now(1), 99);
        e.due("KEY, from 99", stepped("key;hole 99", 2).now(1), 99);
        e.due("HEAVY, from 98", stepped("heavy;hole 98", 2).now(1), 99);
        e.due("HEAVY, from 99", stepped("heavy;hole 99", 2).now(1), 99);
        e.due("ten HEAVY ones, from 95", tenHeavy().now(1), 99);
    }

    private static PocketHole tenHeavy() {
        PocketHole x = Worlds.tenOf(2);
        x.rule(0, 95);
        x.steps(2);
        return x;
    }

    private static void keys(Edges e) {
        e.sentence(0, "else, a KEY, HOLE is 1 more (99 at most), if the rest of STEP by 4 is 0 (STEP as it is ahead of this one).");
        PocketHole x = Worlds.of("key size 40");
        for (int n = 1; n <= 13; n++) {
            x.steps(1);
            // At STEPS 0, 4, 8, 12; but at STEP 0 NEAR is 2.
            e.due("HOLE behind " + n, x.now(1), 10 + (n - 1) / 4);
        }
        x = Worlds.of("key size 40");
        x.change(0, 5, 1);
        x.steps(1);
        e.due("NEAR is 3 at STEP 0", x.now(1), 11);
        e.due("two KEYS", stepped("key size 40;key size 40", 5).now(1), 12);
        e.due("it goes in a later STEP", stepped("key size 11", 5).lie(0), 1);
        e.due("then it does", stepped("key size 11", 6).lie(0), 0);
        x = Worlds.of("key;hole 0");
        x.steps(4);
        x.rule(0, 8);
        x.steps(1);
        e.due("one that goes at STEP 4 WEARS 3, no more", x.now(1), 8 + 3);
        e.due("HEAVY", stepped("heavy size 40", 50).now(1), 10);
        e.due("COIN", stepped("coin size 40", 50).now(1), 10);
        // A KEY is no THICKER than 40, so none that stays can make HOLE more than that.
        e.due("the most that one makes it", stepped("key size 40;hole 39", 5).now(1), 40);
        PocketHole ten = tenKeys();
        e.due("0 makes it 40, the others go", ten.lie(1), 1023 - 1);
        e.due("and WEAR 3 each", ten.now(1), 40 + 9 * 3);
    }

    /** Ten KEYS of 40, a HOLE of 39, behind STEP 4. */
    private static PocketHole tenKeys() {
        PocketHole x = Worlds.tenOf(4);
        for (int c = 0; c < 10; c++) {
            x.change(c, 1, 40);
        }
        x.rule(0, 39);
        x.steps(5);
        return x;
    }

    private static void hem(Edges e) {
        e.sentence(0, "Then by numbers each COIN that was in the LINING ahead of this STEP:");
        PocketHole x = stepped("coin", 3);
        e.due("one that just came doesn't go on", x.of(0, 6), 0);
        x.steps(1);
        e.due("then it does", x.of(0, 6), 1);
        // A TICKET stays in its CELL; what comes to it by number ahead of it is there, what comes behind isn't.
        x = Worlds.of("coin;ticket;gap 4 at 1");
        lined(x, 0, 0);
        lined(x, 1, 1);
        e.due("0 came there ahead of 1", x.steps(1), 1);
        x = Worlds.of("ticket;coin;gap 4 at 1");
        lined(x, 0, 1);
        lined(x, 1, 0);
        e.due("1 comes there behind 0", x.steps(1), 0);
        e.due("then it has gone on by number behind 0", x.steps(1), 1);
        for (int place : new int[] {0, 2, 3, 4}) {
            x = Worlds.of("ticket;ticket;gap 99 at 3");
            lined(x, 0, 3);
            x.put(1, place);
            x.change(1, 6, 3);
            e.due("one in PLACE " + place + " isn't there", x.steps(1), 0);
        }
    }

    private static void lined(PocketHole x, int coin, int cell) {
        x.put(coin, 1);
        x.change(coin, 6, cell);
    }

    /** 0 with a TICKET of SIZE 40 in a CELL; AT, GAP as told. */
    private static PocketHole pair(int cell, int otherCell, int at, int gap) {
        PocketHole x = Worlds.of("coin;ticket size 40");
        x.rule(1, gap);
        x.rule(2, at);
        lined(x, 0, cell);
        lined(x, 1, otherCell);
        return x;
    }

    private static void falls(Edges e) {
        e.sentence(0, "if it is in the CELL AT, no THICKER than GAP, and another COIN is in the LINING in the same CELL then, "
            + "it is on the GROUND (at STEP as it is ahead of this one);");
        for (int at = 0; at <= 7; at++) {
            e.due("AT " + at, pair(at, at, at, 8).steps(1), 1);
            e.due("alone AT " + at, pair(at, 7 - at, at, 8).steps(1), 0);
            e.due("not AT " + at, pair(at, at, 7 - at, 8).steps(1), 0);
        }
        e.due("as THICK as GAP", pair(3, 3, 3, 8).steps(1), 1);
        e.due("THICKER by 1", pair(3, 3, 3, 7).steps(1), 0);
        e.due("GAP 0", pair(3, 3, 3, 0).steps(1), 0);
        e.due("both are thin: the first leaves the other alone", pair(3, 3, 3, 99).steps(1), 1);
        PocketHole x = Worlds.of("ticket;ticket;ticket;gap 4 at 5");
        for (int c = 0; c < 3; c++) {
            lined(x, c, 5);
        }
        e.due("two of three", x.steps(1), 2);
        e.due("the last stays", x.lie(1), 4);
        x = pair(3, 3, 3, 8);
        x.steps(1);
        e.due("at STEP 0", x.of(0, 7), 0);
        e.due("it lies there", x.lie(2), 1);
        x.steps(5);
        e.due("still at STEP 0", x.of(0, 7), 0);
        x = Worlds.bare(9998);
        Worlds.feed(x, "coin;ticket;gap 8 at 3");
        x.text();
        lined(x, 0, 3);
        lined(x, 1, 3);
        x.steps(1);
        e.due("at STEP 9998", x.of(0, 7), 9998);
        x = Worlds.of("coin;heavy size 1;gap 8 at 0");
        lined(x, 0, 0);
        x.change(1, 5, 2);
        e.due("one that just came is there then", x.steps(1), 1);
    }

    private static void cells(Edges e) {
        e.sentence(0, "else its CELL is more by what it GOES (7 at most).");
        int[] coin = {1, 2, 3, 4, 5, 6, 7, 7, 7};
        int[] heavy = {2, 4, 6, 7, 7, 7, 7, 7, 7};
        PocketHole x = Worlds.of("coin;heavy;ticket");
        for (int c = 0; c < 3; c++) {
            x.put(c, 1);
        }
        for (int n = 0; n < coin.length; n++) {
            x.steps(1);
            e.due("CELL of a COIN", x.of(0, 6), coin[n]);
            e.due("CELL of a HEAVY one", x.of(1, 6), heavy[n]);
            e.due("CELL of a TICKET", x.of(2, 6), 0);
        }
    }

    private static void lastStep(Edges e) {
        e.sentence(0, "STEP is one more (0 at first; 9999 at most).");
        PocketHole x = new PocketHole();
        e.due("at first", x.now(0), 0);
        for (int n = 1; n <= 100; n++) {
            x.steps(1);
            e.due("STEP", x.now(0), n);
        }
        x = Worlds.bare(9999);
        e.due("at most", x.now(0), 9999);
        e.due("no more", x.steps(1), Check.STATE);
        e.due("STEP", x.now(0), 9999);
    }

    private static void ahead(Edges e) {
        e.sentence(0, "AHEAD: so many STEPS go on with all as it is; nothing changes.");
        for (int n : new int[] {0, 1, 99, 100}) {
            PocketHole x = Worlds.rich();
            if (n > 0) {
                x.steps(n);
            }
            for (int what = 2; what <= 5; what++) {
                int asked = what;
                int due = what == 2 ? x.now(1) : what == 3 ? x.now(4) : what == 4 ? x.pence(2) : x.lie(1);
                e.still("ahead(" + n + ", " + what + ")", y -> y.ahead(n, asked), due);
            }
        }
        oneBehindAnother(e);
        e.sentence(0, "GONE are COINS that are in the POCKET now and not there AHEAD;");
        PocketHole x = Worlds.of("coin;coin size 12;coin left;coin");
        x.put(3, 1);
        e.due("ahead(3, 0)", x.ahead(3, 0), 1);
        e.due("ahead(2, 0)", x.ahead(2, 0), 0);
        e.sentence(0, "LOST those on the GROUND AHEAD that aren't now.");
        x = pair(3, 3, 3, 8);
        e.due("ahead(0, 1)", x.ahead(0, 1), 0);
        e.due("ahead(1, 1)", x.ahead(1, 1), 1);
        e.due("ahead(100, 1)", x.ahead(100, 1), 1);
        x.steps(1);
        e.due("it lies there now", x.ahead(1, 1), 0);
        e.sentence(0, "CLINKS: pairs of COINS in the LINING in one CELL.");
        x = Worlds.tenOf(6);
        for (int n = 0; n <= 10; n++) {
            e.due("of " + n, x.now(4), n * (n - 1) / 2);
            if (n < 10) {
                x.put(n, 1);
            }
        }
        x.change(9, 6, 7);
        e.due("nine and one", x.now(4), 36);
        x.change(8, 6, 7);
        e.due("eight and two", x.now(4), 28 + 1);
        x.put(0, 2);
        e.due("seven and two", x.now(4), 21 + 1);
    }

    /** What looks ahead answers the same, whatever looked ahead just before it. */
    private static void oneBehindAnother(Edges e) {
        List<ToIntFunction<PocketHole>> looks = List.of(x -> x.ahead(50, 0), x -> x.ahead(4, 5), x -> x.when(3),
            x -> x.falls(4), x -> x.first(), x -> x.cell(3, 5), x -> x.bears(3, 4), x -> x.latest(60, 5),
            x -> x.carry(5), x -> x.carried(7), x -> x.kindFor(3), x -> x.worst(60), x -> x.hem(60),
            x -> x.fits(8, 3), x -> x.size(8, 3), x -> x.began(8), x -> x.boy(24, 5), x -> x.judge(0, 3));
        for (int first = 0; first < looks.size(); first++) {
            for (int then = 0; then < looks.size(); then++) {
                PocketHole x = toLookAt();
                looks.get(first).applyAsInt(x);
                e.due("look " + then + " behind look " + first, looks.get(then).applyAsInt(x),
                    looks.get(then).applyAsInt(toLookAt()));
            }
        }
    }

    /** Of seven coins 0 and 1 fall in some steps, 3 and 4 go and fall later on, 2, 5 and 6 stay. */
    private static PocketHole toLookAt() {
        PocketHole x = Worlds.of("coin pence 1;coin pence 2;coin pence 3 left;coin pence 4");
        Worlds.feed(x, "heavy pence 5;coin size 40 pence 9;ticket;gap 8 at 7");
        x.text();
        x.steps(1);
        lined(x, 0, 2);
        lined(x, 1, 4);
        x.sheet(0, 8, 5);
        return x;
    }

    private static void draws(Edges e) {
        e.sentence(0, "DRAWS: z is told (1 at first);");
        e.due("at first", new PocketHole().count(6), 1);
        e.sentence(0, "each makes it z * 1103515245 + 12345 (an int),");
        // z behind three draws, as these were reckoned beforehand.
        int[][] by = {{1, 662824084}, {0, -1492899873}, {-1, 646343466}, {77, 1289087568}, {-78, -2135643975},
            {Integer.MAX_VALUE, -1501140182}, {Integer.MIN_VALUE, 654583775}};
        for (int[] z : by) {
            PocketHole x = Worlds.of("ticket");
            x.seed(z[0]);
            x.days(1);
            e.due("z from " + z[0], x.count(6), z[1]);
        }
        e.sentence(0, "and gives z >>> 8.");
        // From 3 the first z is -984409216, which gives 12931867, so 4 of 7; from 0 the third gives 10945575: 7 STEPS.
        PocketHole x = Worlds.of("ticket;ticket;ticket;ticket;ticket;ticket;ticket");
        x.seed(3);
        x.days(1);
        e.due("a z below 0", x.lie(3), 1 << 4);
        x = Worlds.of("ticket");
        x.seed(0);
        x.days(1);
        e.due("STEPS", x.now(0), 7);
    }
}
