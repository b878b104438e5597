/** Promises 35 and 36, sentence by sentence. The draws that are due were told beforehand, not by the formula. */
final class DrawEdges {
    // By number: seeds whose draws lead to PLACE 0, or 3, and to so many STEPS.
    private static final int[] TO_POCKET = {24, 14, 4, 33, 1, 25, 10, 5};
    private static final int[] TO_LEFT = {7, 2, 21, 11, 18, 3, 27, 17};

    private DrawEdges() {
    }

    static void all(Edges e) {
        days(e);
        daysRefused(e);
        seed(e);
    }

    private static PocketHole seeded(PocketHole x, int seed) {
        x.seed(seed);
        return x;
    }

    private static PocketHole ticketIn(int place, int seed) {
        PocketHole x = Worlds.of("ticket");
        x.put(0, place);
        x.change(0, 5, 2);
        return seeded(x, seed);
    }

    /** Which of ten tickets left the POCKET, as a set; the seed's second draw must tell PLACE 3. */
    private static int drawnOf(int coins, int seed) {
        PocketHole x = new PocketHole();
        for (int c = 0; c < coins; c++) {
            x.coin(6);
        }
        seeded(x, seed).days(1);
        return x.lie(3);
    }

    private static void days(Edges e) {
        e.sentence(35, "n times (1 to 12) by draws: the COIN that is the rest of a draw by how many there are");
        e.due("draw 12931867, of 1", drawnOf(1, 3), 1);
        e.due("draw 12931867, of 7", drawnOf(7, 3), 1 << 4);
        e.due("draw 12931867, of 10", drawnOf(10, 3), 1 << 7);
        e.due("draw 8621261, of 2", drawnOf(2, 2), 1 << 1);
        e.due("draw 8621261, of 10", drawnOf(10, 2), 1 << 1);
        PocketHole twelve = seeded(Worlds.rich(), 5);
        PocketHole byOne = seeded(Worlds.rich(), 5);
        int last = 0;
        for (int day = 0; day < 12; day++) {
            last = byOne.days(1);
        }
        e.due("days(12), and days(1) twelve times", twelve.days(12), last);
        e.alike("days(12), and days(1) twelve times", twelve, byOne);

        e.sentence(35, "comes to PLACE 0, or 3, by the rest of the next one by 2 (as put()), if it is in one of both;");
        for (int place = 0; place <= 4; place++) {
            boolean comes = place == 0 || place == 3;
            PocketHole x = ticketIn(place, 24);
            x.days(1);
            e.due("rest 0, it is in " + place, x.of(0, 4), comes ? 0 : place);
            e.due("NEAR", x.of(0, 5), comes ? 0 : 2);
            x = ticketIn(place, 7);
            x.days(1);
            e.due("rest 1, it is in " + place, x.of(0, 4), comes ? 3 : place);
            e.due("NEAR", x.of(0, 5), comes ? 0 : 2);
        }

        e.sentence(35, "then as many STEPS go as the rest of the next one by 8:");
        for (int n = 0; n < 8; n++) {
            PocketHole x = ticketIn(0, TO_POCKET[n]);
            x.days(1);
            e.due("STEP", x.now(0), n);
            x = ticketIn(0, TO_LEFT[n]);
            x.days(1);
            e.due("STEP", x.now(0), n);
        }

        e.sentence(35, "PENCE on the GROUND then.");
        e.due("none lies there", ticketIn(0, 5).days(1), 0);
        PocketHole x = ticketIn(2, 5);
        x.change(0, 3, 240);
        e.due("one lies there", x.days(1), 240);
        x = Worlds.of("coin pence 7;coin pence 9;gap 8 at 0");
        x.put(0, 1);
        x.put(1, 1);
        e.due("one falls in the STEP that goes", seeded(x, 14).days(1), 7);
    }

    private static void daysRefused(Edges e) {
        e.sentence(35, "BEYOND.");
        e.beyond("days(?)", 1, 12, (x, v) -> x.days(v));
        e.sentence(35, "STATE: STEP would be above 9999 by 7 each, or there are no COINS.");
        for (int n = 1; n <= 12; n++) {
            int asked = n;
            e.refused(() -> Worlds.rich(10000 - 7 * asked), "days(" + n + ") at " + (10000 - 7 * n), x -> x.days(asked), Check.STATE);
            PocketHole x = Worlds.rich(9999 - 7 * n);
            e.due("days(" + n + ") at " + (9999 - 7 * n) + " is fine", x.days(n) >= 0 ? 1 : 0, 1);
        }
        e.refused(() -> Worlds.rich(9999), "days(1) at 9999", x -> x.days(1), Check.STATE);
        e.refused(PocketHole::new, "days(1) without COINS", x -> x.days(1), Check.STATE);
        e.refused(PocketHole::new, "days(12) without COINS", x -> x.days(12), Check.STATE);
    }

    private static void seed(Edges e) {
        e.sentence(36, "z becomes v: what it was.");
        PocketHole x = new PocketHole();
        int was = 1;
        for (int v : new int[] {0, -1, Integer.MIN_VALUE, -1000001, -1000008, 1, Integer.MAX_VALUE, 1}) {
            e.due("seed(" + v + ")", x.seed(v), was);
            e.due("count(6)", x.count(6), v);
            was = v;
        }
        e.alike("all else", x, new PocketHole());
    }
}
