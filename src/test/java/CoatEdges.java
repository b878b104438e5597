/** Promises 1 to 9, sentence by sentence. */
final class CoatEdges {
    private static final int[] LEAST = {0, 1, 1, 0, 0, 0, 0};
    private static final int[] MOST = {6, 40, 50, 240, -1, 9, 7};

    private CoatEdges() {
    }

    static void all(Edges e) {
        newObject(e);
        coin(e);
        of(e);
        change(e);
        put(e);
        rule(e);
        sew(e);
        lie(e);
        pence(e);
    }

    private static void newObject(Edges e) {
        e.sentence(1, "All as at first;");
        PocketHole x = new PocketHole();
        int[] now = {0, 10, 0, 7, 0, 0, 0};
        for (int what = 0; what < now.length; what++) {
            e.due("now(" + what + ")", x.now(what), now[what]);
        }
        e.due("z", x.count(6), 1);
        e.due("spots in use", x.count(7), 0);
        for (int which = -1; which <= 6; which++) {
            e.due("status(" + which + ")", x.status(which), 0);
        }
        for (int s = 0; s <= 3; s++) {
            e.due("load(" + s + ")", x.load(s), Check.MISSING);
        }
        for (int spot = 0; spot <= 9; spot++) {
            e.due("as(" + spot + ", 0)", x.as(spot, 0), Check.MISSING);
        }
        e.sentence(1, "no COINS;");
        e.due("count(1)", x.count(1), 0);
        e.due("of(0, 0)", x.of(0, 0), Check.BEYOND);
        for (int place = 0; place <= 4; place++) {
            e.due("lie(" + place + ")", x.lie(place), 0);
        }
        e.sentence(1, "THE TAPE is empty,");
        e.due("count(5)", x.count(5), 0);
        e.due("wipe()", new PocketHole().wipe(), 0);
        e.due("text()", x.text(), -1);
        e.sentence(1, "no image is kept.");
        e.due("undo()", x.undo(), Check.NONE);
        e.due("tear()", x.tear(), 0);
    }

    private static void coin(Edges e) {
        e.sentence(2, "A new COIN: its number.");
        PocketHole x = new PocketHole();
        for (int c = 0; c < 10; c++) {
            e.due("coin(" + c % 7 + ")", x.coin(c % 7), c);
            e.due("its KIND", x.of(c, 0), c % 7);
            e.due("count(1)", x.count(1), c + 1);
        }
        e.sentence(2, "BEYOND.");
        e.beyond("coin(?)", 0, 6, (y, v) -> y.coin(v));
        e.sentence(2, "FULL.");
        for (int kind = 0; kind <= 6; kind++) {
            int asked = kind;
            e.refused(Worlds::full, "an 11th, coin(" + kind + ")", y -> y.coin(asked), Check.FULL);
        }
    }

    private static void of(Edges e) {
        e.sentence(3, "Of a COIN: what 0 KIND, 1 SIZE, 2 WEIGHT, 3 PENCE, 4 PLACE, 5 NEAR, 6 CELL, "
            + "7 the STEP at which it came to the GROUND, 8 how THICK it is, 9 what it GOES, 10 what it WEARS now.");
        of(e, 0, 0, 8, 5, 1, 2, 3, 7, 10, 8, 1, 0);
        of(e, 1, 2, 9, 33, 2, 1, 4, 7, -1, 9, 2, 2);
        of(e, 3, 4, 40, 5, 8, 0, 9, 0, -1, 40, 2, 3);
        of(e, 4, 6, 8, 5, 16, 3, 0, 0, -1, 4, 0, 0);
        of(e, 5, 1, 30, 5, 32, 0, 9, 0, -1, 60, 1, 0);
        of(e, 6, 0, 8, 5, 64, 4, 0, 0, -1, 8, 1, 0);
        e.sentence(3, "BEYOND.");
        e.beyond("of(?, 0)", 0, 6, (x, v) -> x.of(v, 0));
        e.beyond("of(0, ?)", 0, 10, (x, v) -> x.of(0, v));
        e.beyond(Worlds::full, "of(?, 10)", 0, 9, (x, v) -> x.of(v, 10));
        e.beyond(PocketHole::new, "of(?, 0) of none", 0, -1, (x, v) -> x.of(v, 0));
    }

    private static void of(Edges e, int coin, int... due) {
        for (int what = 0; what < due.length; what++) {
            int asked = what;
            e.still("of(" + coin + ", " + what + ")", x -> x.of(coin, asked), due[what]);
        }
    }

    private static void change(Edges e) {
        e.sentence(4, "KIND (what 0), SIZE (1), WEIGHT (2), PENCE (3), NEAR (5), CELL (6) of a COIN becomes v: what it was.");
        int[] first = {0, 8, 5, 1, 2, 3, 7};
        for (int what = 0; what <= 6; what++) {
            if (what != 4) {
                PocketHole x = Worlds.rich();
                e.due("to the least", x.change(0, what, LEAST[what]), first[what]);
                e.due("of(0, " + what + ")", x.of(0, what), LEAST[what]);
                e.due("to the most", x.change(0, what, MOST[what]), LEAST[what]);
                e.due("of(0, " + what + ")", x.of(0, what), MOST[what]);
                e.due("to what it was", x.change(0, what, first[what]), MOST[what]);
                e.alike("all else", x, Worlds.rich());
            }
        }
        e.sentence(4, "BEYOND.");
        for (int what = 0; what <= 6; what++) {
            int asked = what;
            if (what != 4) {
                e.beyond("change(0, " + what + ", ?)", LEAST[what], MOST[what], (x, v) -> x.change(0, asked, v));
            }
        }
        e.beyond("change(0, ?, 1)", 0, 6, (x, v) -> x.change(0, v, 1));
        for (int what : new int[] {4, 7, 8, 9, 10}) {
            e.refused("change(0, " + what + ", 1)", x -> x.change(0, what, 1), Check.BEYOND);
        }
        e.beyond("change(?, 1, 1)", 0, 6, (x, v) -> x.change(v, 1, 1));
    }

    private static void put(Edges e) {
        e.sentence(5, "A COIN comes to a PLACE (0 to 4);");
        for (int place = 0; place <= 4; place++) {
            PocketHole x = Worlds.rich();
            x.put(1, place);
            e.due("of(1, 4)", x.of(1, 4), place);
            e.due("lie(" + place + ")", x.lie(place) & 2, 2);
        }
        e.sentence(5, "NEAR, CELL are 0 then,");
        for (int place = 0; place <= 4; place++) {
            PocketHole x = Worlds.rich();
            x.put(1, place);
            e.due("NEAR", x.of(1, 5), 0);
            e.due("CELL", x.of(1, 6), 0);
        }
        e.sentence(5, "and it didn't come to the GROUND by a STEP:");
        for (int place = 0; place <= 4; place++) {
            PocketHole x = Worlds.rich();
            e.due("it did", x.of(0, 7), 10);
            x.put(0, place);
            e.due("of(0, 7)", x.of(0, 7), -1);
            e.due("back(0, 1)", x.back(0, 1), Check.STATE);
        }
        e.sentence(5, "where it was.");
        int[] were = {2, 1, 2, 0, 3, 0, 4};
        for (int c = 0; c < were.length; c++) {
            e.due("put(" + c + ", 0)", Worlds.rich().put(c, 0), were[c]);
            e.due("put(" + c + ", 4)", Worlds.rich().put(c, 4), were[c]);
        }
        e.sentence(5, "BEYOND.");
        e.beyond("put(0, ?)", 0, 4, (x, v) -> x.put(0, v));
        e.beyond("put(?, 0)", 0, 6, (x, v) -> x.put(v, 0));
        e.beyond(PocketHole::new, "put(?, 0) of none", 0, -1, (x, v) -> x.put(v, 0));
    }

    private static void rule(Edges e) {
        e.sentence(6, "HOLE (what 0), GAP (1), AT (2) becomes v: what it was.");
        int[] first = {17, 9, 7};
        int[] most = {99, 99, 7};
        for (int what = 0; what <= 2; what++) {
            PocketHole x = Worlds.rich();
            e.due("rule(" + what + ", 0)", x.rule(what, 0), first[what]);
            e.due("now", x.now(1 + what), 0);
            e.due("rule(" + what + ", most)", x.rule(what, most[what]), 0);
            e.due("now", x.now(1 + what), most[what]);
            e.due("to what it was", x.rule(what, first[what]), most[what]);
            e.alike("all else", x, Worlds.rich());
        }
        e.sentence(6, "BEYOND.");
        for (int what = 0; what <= 2; what++) {
            int asked = what;
            e.beyond("rule(" + what + ", ?)", 0, most[what], (x, v) -> x.rule(asked, v));
        }
        e.beyond("rule(?, 1)", 0, 2, (x, v) -> x.rule(v, 1));
    }

    private static void sew(Edges e) {
        e.sentence(7, "HOLE is sewn, it is 0: what it was.");
        PocketHole x = Worlds.rich();
        e.due("sew()", x.sew(), 17);
        e.due("HOLE", x.now(1), 0);
        e.due("sew() again", x.sew(), 0);
        PocketHole same = Worlds.rich();
        same.rule(0, 0);
        e.alike("all else", x, same);
        x = new PocketHole();
        x.rule(0, 99);
        e.due("sew() of the widest", x.sew(), 99);
    }

    private static void lie(Edges e) {
        e.sentence(8, "COINS in a PLACE, as a set.");
        int[] due = {8 + 32, 2, 1 + 4, 16, 64};
        for (int place = 0; place <= 4; place++) {
            int asked = place;
            e.still("lie(" + place + ")", x -> x.lie(asked), due[place]);
            e.still(PocketHole::new, "lie(" + place + ") of none", x -> x.lie(asked), 0);
            e.due("lie(" + place + ") of all", allIn(place).lie(place), 1023);
        }
        e.sentence(8, "BEYOND.");
        e.beyond("lie(?)", 0, 4, (x, v) -> x.lie(v));
    }

    private static PocketHole allIn(int place) {
        PocketHole x = Worlds.tenOf(0);
        for (int c = 0; c < 10; c++) {
            x.change(c, 3, 240);
            x.put(c, place);
        }
        return x;
    }

    private static void pence(Edges e) {
        e.sentence(9, "PENCE of all in a PLACE.");
        int[] due = {40, 2, 5, 16, 64};
        for (int place = 0; place <= 4; place++) {
            int asked = place;
            e.still("pence(" + place + ")", x -> x.pence(asked), due[place]);
            e.still(PocketHole::new, "pence(" + place + ") of none", x -> x.pence(asked), 0);
            e.due("pence(" + place + ") of all", allIn(place).pence(place), 2400);
        }
        e.sentence(9, "BEYOND.");
        e.beyond("pence(?)", 0, 4, (x, v) -> x.pence(v));
    }
}
